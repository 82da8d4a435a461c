section
-- ===== PART A: goes FIRST, ahead of the names: the tables' words, and 'selects' of the private methods out of them =====
/-- a method of its own that the tables say can be made, by its rows of tables_1 -/
def lw_okq (q : MethodName × Nat) : Prop := (q.1.cls ≠ "java/lang/invoke/MethodHandle" ∧ q.1.cls ≠ "java/lang/invoke/VarHandle") ∧ Cond.instantiable q.1.cls q.2 ∈ tables_1 ∧ Cond.privateMethod q.1 ∈ tables_1 ∧ Cond.instanceMethod q.1 ∈ tables_1
theorem lw_p0 : lw_okq (⟨"TextKeeper", "needPower", "()V"⟩, 9) := ⟨⟨by decide +kernel, by decide +kernel⟩, List.mem_of_getElem? (i := 20) (by decide +kernel), List.mem_of_getElem? (i := 146) (by decide +kernel), List.mem_of_getElem? (i := 147) (by decide +kernel)⟩
theorem lw_p1 : lw_okq (⟨"java/lang/Throwable", "fillInStackTrace", "(I)Ljava/lang/Throwable;"⟩, 6) := ⟨⟨by decide +kernel, by decide +kernel⟩, List.mem_of_getElem? (i := 188) (by decide +kernel), List.mem_of_getElem? (i := 186) (by decide +kernel), List.mem_of_getElem? (i := 187) (by decide +kernel)⟩
theorem lw_p2 : lw_okq (⟨"TextKeeper", "spendWrites", "(I)V"⟩, 9) := ⟨⟨by decide +kernel, by decide +kernel⟩, List.mem_of_getElem? (i := 20) (by decide +kernel), List.mem_of_getElem? (i := 243) (by decide +kernel), List.mem_of_getElem? (i := 244) (by decide +kernel)⟩
theorem lw_p3 : lw_okq (⟨"TextKeeper", "documentAt", "(I)LTextKeeper$Document;"⟩, 9) := ⟨⟨by decide +kernel, by decide +kernel⟩, List.mem_of_getElem? (i := 20) (by decide +kernel), List.mem_of_getElem? (i := 277) (by decide +kernel), List.mem_of_getElem? (i := 278) (by decide +kernel)⟩
theorem lw_p4 : lw_okq (⟨"TextKeeper$Maker", "makeNext", "(LTextKeeper$Document;I)Z"⟩, 4) := ⟨⟨by decide +kernel, by decide +kernel⟩, List.mem_of_getElem? (i := 47) (by decide +kernel), List.mem_of_getElem? (i := 297) (by decide +kernel), List.mem_of_getElem? (i := 298) (by decide +kernel)⟩
theorem lw_p5 : lw_okq (⟨"TextKeeper$Maker", "obeyCommand", "()Z"⟩, 4) := ⟨⟨by decide +kernel, by decide +kernel⟩, List.mem_of_getElem? (i := 47) (by decide +kernel), List.mem_of_getElem? (i := 305) (by decide +kernel), List.mem_of_getElem? (i := 306) (by decide +kernel)⟩
theorem lw_p6 : lw_okq (⟨"TextKeeper$Maker", "readNumber", "()I"⟩, 4) := ⟨⟨by decide +kernel, by decide +kernel⟩, List.mem_of_getElem? (i := 47) (by decide +kernel), List.mem_of_getElem? (i := 309) (by decide +kernel), List.mem_of_getElem? (i := 310) (by decide +kernel)⟩
theorem lw_p7 : lw_okq (⟨"TextKeeper$Maker", "insert", "(I)Z"⟩, 4) := ⟨⟨by decide +kernel, by decide +kernel⟩, List.mem_of_getElem? (i := 47) (by decide +kernel), List.mem_of_getElem? (i := 314) (by decide +kernel), List.mem_of_getElem? (i := 315) (by decide +kernel)⟩
theorem lw_p8 : lw_okq (⟨"TextKeeper$Maker", "copy", "(I)Z"⟩, 4) := ⟨⟨by decide +kernel, by decide +kernel⟩, List.mem_of_getElem? (i := 47) (by decide +kernel), List.mem_of_getElem? (i := 319) (by decide +kernel), List.mem_of_getElem? (i := 320) (by decide +kernel)⟩
theorem lw_p9 : lw_okq (⟨"TextKeeper$PieceWriter", "writeDifferences", "(LTextKeeper$Text;LTextKeeper$Text;)V"⟩, 2) := ⟨⟨by decide +kernel, by decide +kernel⟩, List.mem_of_getElem? (i := 68) (by decide +kernel), List.mem_of_getElem? (i := 331) (by decide +kernel), List.mem_of_getElem? (i := 332) (by decide +kernel)⟩
theorem lw_p10 : lw_okq (⟨"TextKeeper$PieceWriter", "writeInsert", "(LTextKeeper$Text;II)V"⟩, 2) := ⟨⟨by decide +kernel, by decide +kernel⟩, List.mem_of_getElem? (i := 68) (by decide +kernel), List.mem_of_getElem? (i := 345) (by decide +kernel), List.mem_of_getElem? (i := 346) (by decide +kernel)⟩
theorem lw_p11 : lw_okq (⟨"TextKeeper$PieceWriter", "writeNumber", "(I)V"⟩, 2) := ⟨⟨by decide +kernel, by decide +kernel⟩, List.mem_of_getElem? (i := 68) (by decide +kernel), List.mem_of_getElem? (i := 349) (by decide +kernel), List.mem_of_getElem? (i := 350) (by decide +kernel)⟩
theorem lw_p12 : lw_okq (⟨"TextKeeper$PieceWriter", "writeByte", "(I)V"⟩, 2) := ⟨⟨by decide +kernel, by decide +kernel⟩, List.mem_of_getElem? (i := 68) (by decide +kernel), List.mem_of_getElem? (i := 356) (by decide +kernel), List.mem_of_getElem? (i := 357) (by decide +kernel)⟩
theorem lw_p13 : lw_okq (⟨"TextKeeper", "countFree", "()I"⟩, 9) := ⟨⟨by decide +kernel, by decide +kernel⟩, List.mem_of_getElem? (i := 20) (by decide +kernel), List.mem_of_getElem? (i := 378) (by decide +kernel), List.mem_of_getElem? (i := 379) (by decide +kernel)⟩
theorem lw_p14 : lw_okq (⟨"TextKeeper", "keptRevision", "(II)LTextKeeper$Revision;"⟩, 9) := ⟨⟨by decide +kernel, by decide +kernel⟩, List.mem_of_getElem? (i := 20) (by decide +kernel), List.mem_of_getElem? (i := 523) (by decide +kernel), List.mem_of_getElem? (i := 524) (by decide +kernel)⟩
theorem lw_p15 : lw_okq (⟨"TextKeeper", "isSound", "(LTextKeeper$Document;I)Z"⟩, 9) := ⟨⟨by decide +kernel, by decide +kernel⟩, List.mem_of_getElem? (i := 20) (by decide +kernel), List.mem_of_getElem? (i := 553) (by decide +kernel), List.mem_of_getElem? (i := 554) (by decide +kernel)⟩
def lw_privs_1 : List (MethodName × Nat) := [(⟨"TextKeeper", "needPower", "()V"⟩, 9), (⟨"java/lang/Throwable", "fillInStackTrace", "(I)Ljava/lang/Throwable;"⟩, 6), (⟨"TextKeeper", "spendWrites", "(I)V"⟩, 9), (⟨"TextKeeper", "documentAt", "(I)LTextKeeper$Document;"⟩, 9), (⟨"TextKeeper$Maker", "makeNext", "(LTextKeeper$Document;I)Z"⟩, 4), (⟨"TextKeeper$Maker", "obeyCommand", "()Z"⟩, 4), (⟨"TextKeeper$Maker", "readNumber", "()I"⟩, 4), (⟨"TextKeeper$Maker", "insert", "(I)Z"⟩, 4), (⟨"TextKeeper$Maker", "copy", "(I)Z"⟩, 4), (⟨"TextKeeper$PieceWriter", "writeDifferences", "(LTextKeeper$Text;LTextKeeper$Text;)V"⟩, 2), (⟨"TextKeeper$PieceWriter", "writeInsert", "(LTextKeeper$Text;II)V"⟩, 2), (⟨"TextKeeper$PieceWriter", "writeNumber", "(I)V"⟩, 2), (⟨"TextKeeper$PieceWriter", "writeByte", "(I)V"⟩, 2), (⟨"TextKeeper", "countFree", "()I"⟩, 9), (⟨"TextKeeper", "keptRevision", "(II)LTextKeeper$Revision;"⟩, 9), (⟨"TextKeeper", "isSound", "(LTextKeeper$Document;I)Z"⟩, 9)]
theorem lw_r1 : ∀ q ∈ lw_privs_1, lw_okq q := List.forall_mem_cons.mpr ⟨lw_p0, List.forall_mem_cons.mpr ⟨lw_p1, List.forall_mem_cons.mpr ⟨lw_p2, List.forall_mem_cons.mpr ⟨lw_p3, List.forall_mem_cons.mpr ⟨lw_p4, List.forall_mem_cons.mpr ⟨lw_p5, List.forall_mem_cons.mpr ⟨lw_p6, List.forall_mem_cons.mpr ⟨lw_p7, List.forall_mem_cons.mpr ⟨lw_p8, List.forall_mem_cons.mpr ⟨lw_p9, List.forall_mem_cons.mpr ⟨lw_p10, List.forall_mem_cons.mpr ⟨lw_p11, List.forall_mem_cons.mpr ⟨lw_p12, List.forall_mem_cons.mpr ⟨lw_p13, List.forall_mem_cons.mpr ⟨lw_p14, List.forall_mem_cons.mpr ⟨lw_p15, fun _ h => absurd h List.not_mem_nil⟩⟩⟩⟩⟩⟩⟩⟩⟩⟩⟩⟩⟩⟩⟩⟩
theorem lw_p16 : lw_okq (⟨"TextKeeperModel", "runs", "(I)Z"⟩, 27) := ⟨⟨by decide +kernel, by decide +kernel⟩, List.mem_of_getElem? (i := 587) (by decide +kernel), List.mem_of_getElem? (i := 686) (by decide +kernel), List.mem_of_getElem? (i := 687) (by decide +kernel)⟩
theorem lw_p17 : lw_okq (⟨"TextKeeperModel", "writes", "(I)Z"⟩, 27) := ⟨⟨by decide +kernel, by decide +kernel⟩, List.mem_of_getElem? (i := 587) (by decide +kernel), List.mem_of_getElem? (i := 698) (by decide +kernel), List.mem_of_getElem? (i := 699) (by decide +kernel)⟩
theorem lw_p18 : lw_okq (⟨"TextKeeperModel", "isDocument", "(I)Z"⟩, 27) := ⟨⟨by decide +kernel, by decide +kernel⟩, List.mem_of_getElem? (i := 587) (by decide +kernel), List.mem_of_getElem? (i := 706) (by decide +kernel), List.mem_of_getElem? (i := 707) (by decide +kernel)⟩
theorem lw_p19 : lw_okq (⟨"TextKeeperModel", "again", "(II)Z"⟩, 27) := ⟨⟨by decide +kernel, by decide +kernel⟩, List.mem_of_getElem? (i := 587) (by decide +kernel), List.mem_of_getElem? (i := 710) (by decide +kernel), List.mem_of_getElem? (i := 711) (by decide +kernel)⟩
theorem lw_p20 : lw_okq (⟨"TextKeeperModel", "makes", "(I)Z"⟩, 27) := ⟨⟨by decide +kernel, by decide +kernel⟩, List.mem_of_getElem? (i := 587) (by decide +kernel), List.mem_of_getElem? (i := 714) (by decide +kernel), List.mem_of_getElem? (i := 715) (by decide +kernel)⟩
theorem lw_p21 : lw_okq (⟨"TextKeeperModel", "begins", "(I)I"⟩, 27) := ⟨⟨by decide +kernel, by decide +kernel⟩, List.mem_of_getElem? (i := 587) (by decide +kernel), List.mem_of_getElem? (i := 718) (by decide +kernel), List.mem_of_getElem? (i := 719) (by decide +kernel)⟩
theorem lw_p22 : lw_okq (⟨"TextKeeperModel", "command", "()Z"⟩, 27) := ⟨⟨by decide +kernel, by decide +kernel⟩, List.mem_of_getElem? (i := 587) (by decide +kernel), List.mem_of_getElem? (i := 722) (by decide +kernel), List.mem_of_getElem? (i := 723) (by decide +kernel)⟩
theorem lw_p23 : lw_okq (⟨"TextKeeperModel", "number", "()Z"⟩, 27) := ⟨⟨by decide +kernel, by decide +kernel⟩, List.mem_of_getElem? (i := 587) (by decide +kernel), List.mem_of_getElem? (i := 726) (by decide +kernel), List.mem_of_getElem? (i := 727) (by decide +kernel)⟩
theorem lw_p24 : lw_okq (⟨"TextKeeperModel", "pieces", "()V"⟩, 27) := ⟨⟨by decide +kernel, by decide +kernel⟩, List.mem_of_getElem? (i := 587) (by decide +kernel), List.mem_of_getElem? (i := 730) (by decide +kernel), List.mem_of_getElem? (i := 731) (by decide +kernel)⟩
theorem lw_p25 : lw_okq (⟨"TextKeeperModel", "run", "(II)I"⟩, 27) := ⟨⟨by decide +kernel, by decide +kernel⟩, List.mem_of_getElem? (i := 587) (by decide +kernel), List.mem_of_getElem? (i := 734) (by decide +kernel), List.mem_of_getElem? (i := 735) (by decide +kernel)⟩
theorem lw_p26 : lw_okq (⟨"TextKeeperModel", "inserts", "(II)V"⟩, 27) := ⟨⟨by decide +kernel, by decide +kernel⟩, List.mem_of_getElem? (i := 587) (by decide +kernel), List.mem_of_getElem? (i := 738) (by decide +kernel), List.mem_of_getElem? (i := 739) (by decide +kernel)⟩
theorem lw_p27 : lw_okq (⟨"TextKeeperModel", "putNumber", "(I)V"⟩, 27) := ⟨⟨by decide +kernel, by decide +kernel⟩, List.mem_of_getElem? (i := 587) (by decide +kernel), List.mem_of_getElem? (i := 742) (by decide +kernel), List.mem_of_getElem? (i := 743) (by decide +kernel)⟩
theorem lw_p28 : lw_okq (⟨"TextKeeperModel", "put", "(I)V"⟩, 27) := ⟨⟨by decide +kernel, by decide +kernel⟩, List.mem_of_getElem? (i := 587) (by decide +kernel), List.mem_of_getElem? (i := 746) (by decide +kernel), List.mem_of_getElem? (i := 747) (by decide +kernel)⟩
theorem lw_p29 : lw_okq (⟨"TextKeeperModel", "free", "()I"⟩, 27) := ⟨⟨by decide +kernel, by decide +kernel⟩, List.mem_of_getElem? (i := 587) (by decide +kernel), List.mem_of_getElem? (i := 753) (by decide +kernel), List.mem_of_getElem? (i := 754) (by decide +kernel)⟩
theorem lw_p30 : lw_okq (⟨"TextKeeperModel", "sum", "([BI)I"⟩, 27) := ⟨⟨by decide +kernel, by decide +kernel⟩, List.mem_of_getElem? (i := 587) (by decide +kernel), List.mem_of_getElem? (i := 757) (by decide +kernel), List.mem_of_getElem? (i := 758) (by decide +kernel)⟩
theorem lw_p31 : lw_okq (⟨"TextKeeperModel", "isAsked", "(II)Z"⟩, 27) := ⟨⟨by decide +kernel, by decide +kernel⟩, List.mem_of_getElem? (i := 587) (by decide +kernel), List.mem_of_getElem? (i := 765) (by decide +kernel), List.mem_of_getElem? (i := 766) (by decide +kernel)⟩
def lw_privs_2 : List (MethodName × Nat) := [(⟨"TextKeeperModel", "runs", "(I)Z"⟩, 27), (⟨"TextKeeperModel", "writes", "(I)Z"⟩, 27), (⟨"TextKeeperModel", "isDocument", "(I)Z"⟩, 27), (⟨"TextKeeperModel", "again", "(II)Z"⟩, 27), (⟨"TextKeeperModel", "makes", "(I)Z"⟩, 27), (⟨"TextKeeperModel", "begins", "(I)I"⟩, 27), (⟨"TextKeeperModel", "command", "()Z"⟩, 27), (⟨"TextKeeperModel", "number", "()Z"⟩, 27), (⟨"TextKeeperModel", "pieces", "()V"⟩, 27), (⟨"TextKeeperModel", "run", "(II)I"⟩, 27), (⟨"TextKeeperModel", "inserts", "(II)V"⟩, 27), (⟨"TextKeeperModel", "putNumber", "(I)V"⟩, 27), (⟨"TextKeeperModel", "put", "(I)V"⟩, 27), (⟨"TextKeeperModel", "free", "()I"⟩, 27), (⟨"TextKeeperModel", "sum", "([BI)I"⟩, 27), (⟨"TextKeeperModel", "isAsked", "(II)Z"⟩, 27)]
theorem lw_r2 : ∀ q ∈ lw_privs_2, lw_okq q := List.forall_mem_cons.mpr ⟨lw_p16, List.forall_mem_cons.mpr ⟨lw_p17, List.forall_mem_cons.mpr ⟨lw_p18, List.forall_mem_cons.mpr ⟨lw_p19, List.forall_mem_cons.mpr ⟨lw_p20, List.forall_mem_cons.mpr ⟨lw_p21, List.forall_mem_cons.mpr ⟨lw_p22, List.forall_mem_cons.mpr ⟨lw_p23, List.forall_mem_cons.mpr ⟨lw_p24, List.forall_mem_cons.mpr ⟨lw_p25, List.forall_mem_cons.mpr ⟨lw_p26, List.forall_mem_cons.mpr ⟨lw_p27, List.forall_mem_cons.mpr ⟨lw_p28, List.forall_mem_cons.mpr ⟨lw_p29, List.forall_mem_cons.mpr ⟨lw_p30, List.forall_mem_cons.mpr ⟨lw_p31, fun _ h => absurd h List.not_mem_nil⟩⟩⟩⟩⟩⟩⟩⟩⟩⟩⟩⟩⟩⟩⟩⟩
theorem lw_p32 : lw_okq (⟨"TextKeeperModel", "cleans", "(I)V"⟩, 27) := ⟨⟨by decide +kernel, by decide +kernel⟩, List.mem_of_getElem? (i := 587) (by decide +kernel), List.mem_of_getElem? (i := 781) (by decide +kernel), List.mem_of_getElem? (i := 782) (by decide +kernel)⟩
theorem lw_p33 : lw_okq (⟨"TextKeeperModel", "drop", "(I)V"⟩, 27) := ⟨⟨by decide +kernel, by decide +kernel⟩, List.mem_of_getElem? (i := 587) (by decide +kernel), List.mem_of_getElem? (i := 788) (by decide +kernel), List.mem_of_getElem? (i := 789) (by decide +kernel)⟩
theorem lw_p34 : lw_okq (⟨"TextKeeperModel", "kept", "(II)I"⟩, 27) := ⟨⟨by decide +kernel, by decide +kernel⟩, List.mem_of_getElem? (i := 587) (by decide +kernel), List.mem_of_getElem? (i := 804) (by decide +kernel), List.mem_of_getElem? (i := 805) (by decide +kernel)⟩
def lw_privs_3 : List (MethodName × Nat) := [(⟨"TextKeeperModel", "cleans", "(I)V"⟩, 27), (⟨"TextKeeperModel", "drop", "(I)V"⟩, 27), (⟨"TextKeeperModel", "kept", "(II)I"⟩, 27)]
theorem lw_r3 : ∀ q ∈ lw_privs_3, lw_okq q := List.forall_mem_cons.mpr ⟨lw_p32, List.forall_mem_cons.mpr ⟨lw_p33, List.forall_mem_cons.mpr ⟨lw_p34, fun _ h => absurd h List.not_mem_nil⟩⟩⟩
def lw_privs : List (MethodName × Nat) := lw_privs_1 ++ (lw_privs_2 ++ (lw_privs_3))
def lw_tbl : List Cond := k2_sels lw_privs ++ tables_1
theorem lw_privs_ok : ∀ q ∈ lw_privs, lw_okq q := by
  show ∀ q ∈ lw_privs_1 ++ (lw_privs_2 ++ (lw_privs_3)), lw_okq q
  exact List.forall_mem_append.mpr ⟨lw_r1, List.forall_mem_append.mpr ⟨lw_r2, lw_r3⟩⟩
/-! names: classes, fields in the order of the slots, methods; by program out of the listing -/
def R_K : String := "TextKeeper"
def F_K : u_T := fun k => match k with
  | 0 => ("TextKeeper", "documents", "[LTextKeeper$Document;", true)
  | 1 => ("TextKeeper", "buffer", "LTextKeeper$Text;", true)
  | 2 => ("TextKeeper", "fetched", "LTextKeeper$Text;", true)
  | 3 => ("TextKeeper", "compared", "LTextKeeper$Text;", true)
  | 4 => ("TextKeeper", "maker", "LTextKeeper$Maker;", true)
  | 5 => ("TextKeeper", "writer", "LTextKeeper$PieceWriter;", true)
  | 6 => ("TextKeeper", "power", "LTextKeeper$Power;", true)
  | 7 => ("TextKeeper", "madeDocuments", "I", false)
  | _ => ("TextKeeper", "fetchedSteps", "I", false)
def ft_K : Nat → FieldType := fun k => match k with
  | 0 => .array (.object "TextKeeper$Document")
  | 1 => .object "TextKeeper$Text"
  | 2 => .object "TextKeeper$Text"
  | 3 => .object "TextKeeper$Text"
  | 4 => .object "TextKeeper$Maker"
  | 5 => .object "TextKeeper$PieceWriter"
  | 6 => .object "TextKeeper$Power"
  | 7 => .int
  | _ => .int
def R_T : String := "TextKeeper$Text"
def F_T : u_T := fun k => match k with
  | 0 => ("TextKeeper$Text", "bytes", "[B", true)
  | _ => ("TextKeeper$Text", "length", "I", false)
def ft_T : Nat → FieldType := fun k => match k with
  | 0 => .array .byte
  | _ => .int
def R_M : String := "TextKeeper$Maker"
def F_M : u_T := fun k => match k with
  | 0 => ("TextKeeper$Maker", "base", "LTextKeeper$Text;", false)
  | 1 => ("TextKeeper$Maker", "text", "LTextKeeper$Text;", false)
  | 2 => ("TextKeeper$Maker", "piece", "[B", false)
  | _ => ("TextKeeper$Maker", "at", "I", false)
def ft_M : Nat → FieldType := fun k => match k with
  | 0 => .object "TextKeeper$Text"
  | 1 => .object "TextKeeper$Text"
  | 2 => .array .byte
  | _ => .int
def R_W : String := "TextKeeper$PieceWriter"
def F_W : u_T := fun k => match k with
  | 0 => ("TextKeeper$PieceWriter", "row", "[B", true)
  | _ => ("TextKeeper$PieceWriter", "length", "I", false)
def ft_W : Nat → FieldType := fun k => match k with
  | 0 => .array .byte
  | _ => .int
def R_P : String := "TextKeeper$Power"
def F_P : u_T := fun k => match k with
  | 0 => ("TextKeeper$Power", "down", "Z", false)
  | 1 => ("TextKeeper$Power", "going", "Z", false)
  | _ => ("TextKeeper$Power", "writesLeft", "I", false)
def ft_P : Nat → FieldType := fun k => match k with
  | 0 => .boolean
  | 1 => .boolean
  | _ => .int
def R_D : String := "TextKeeper$Document"
def F_D : u_T := fun k => match k with
  | 0 => ("TextKeeper$Document", "revisions", "[LTextKeeper$Revision;", true)
  | 1 => ("TextKeeper$Document", "first", "I", false)
  | _ => ("TextKeeper$Document", "count", "I", false)
def ft_D : Nat → FieldType := fun k => match k with
  | 0 => .array (.object "TextKeeper$Revision")
  | 1 => .int
  | _ => .int
def R_V : String := "TextKeeper$Revision"
def F_V : u_T := fun k => match k with
  | 0 => ("TextKeeper$Revision", "piece", "[B", true)
  | 1 => ("TextKeeper$Revision", "author", "I", true)
  | _ => ("TextKeeper$Revision", "sum", "I", true)
def ft_V : Nat → FieldType := fun k => match k with
  | 0 => .array .byte
  | 1 => .int
  | _ => .int
def R_O : String := "TextKeeperModel"
def F_O : u_T := fun k => match k with
  | 0 => ("TextKeeperModel", "thrown", "I", false)
  | 1 => ("TextKeeperModel", "down", "Z", false)
  | 2 => ("TextKeeperModel", "lasts", "I", false)
  | 3 => ("TextKeeperModel", "buffer", "[B", true)
  | 4 => ("TextKeeperModel", "size", "I", false)
  | 5 => ("TextKeeperModel", "documents", "I", false)
  | 6 => ("TextKeeperModel", "gone", "[Z", true)
  | 7 => ("TextKeeperModel", "first", "[I", true)
  | 8 => ("TextKeeperModel", "many", "[I", true)
  | 9 => ("TextKeeperModel", "lengths", "[S", true)
  | 10 => ("TextKeeperModel", "authors", "[I", true)
  | 11 => ("TextKeeperModel", "sums", "[I", true)
  | 12 => ("TextKeeperModel", "row", "[B", true)
  | 13 => ("TextKeeperModel", "made", "[B", false)
  | 14 => ("TextKeeperModel", "madeSize", "I", false)
  | 15 => ("TextKeeperModel", "base", "[B", false)
  | 16 => ("TextKeeperModel", "baseSize", "I", false)
  | 17 => ("TextKeeperModel", "text", "[B", true)
  | 18 => ("TextKeeperModel", "textSize", "I", false)
  | 19 => ("TextKeeperModel", "textSteps", "I", false)
  | 20 => ("TextKeeperModel", "other", "[B", true)
  | 21 => ("TextKeeperModel", "otherSize", "I", false)
  | 22 => ("TextKeeperModel", "piece", "[B", true)
  | 23 => ("TextKeeperModel", "pieceSize", "I", false)
  | 24 => ("TextKeeperModel", "at", "I", false)
  | 25 => ("TextKeeperModel", "end", "I", false)
  | _ => ("TextKeeperModel", "value", "I", false)
def ft_O : Nat → FieldType := fun k => match k with
  | 0 => .int
  | 1 => .boolean
  | 2 => .int
  | 3 => .array .byte
  | 4 => .int
  | 5 => .int
  | 6 => .array .boolean
  | 7 => .array .int
  | 8 => .array .int
  | 9 => .array .short
  | 10 => .array .int
  | 11 => .array .int
  | 12 => .array .byte
  | 13 => .array .byte
  | 14 => .int
  | 15 => .array .byte
  | 16 => .int
  | 17 => .array .byte
  | 18 => .int
  | 19 => .int
  | 20 => .array .byte
  | 21 => .int
  | 22 => .array .byte
  | 23 => .int
  | 24 => .int
  | 25 => .int
  | _ => .int
def R_L : String := "TextKeeperLaw"
abbrev vwCl : List vw_C := [(R_K, F_K, 9), (R_T, F_T, 2), (R_M, F_M, 4), (R_W, F_W, 2), (R_P, F_P, 3), (R_D, F_D, 3), (R_V, F_V, 3), (R_O, F_O, 27)]
def y_P_init : MethodName := ⟨R_P, "<init>", "()V"⟩
def y_T_init : MethodName := ⟨R_T, "<init>", "()V"⟩
def y_W_init : MethodName := ⟨R_W, "<init>", "()V"⟩
def y_M_init : MethodName := ⟨R_M, "<init>", "()V"⟩
def y_K_init : MethodName := ⟨R_K, "<init>", "()V"⟩
def y_K_needPower : MethodName := ⟨R_K, "needPower", "()V"⟩
def y_K_documentAt : MethodName := ⟨R_K, "documentAt", "(I)LTextKeeper$Document;"⟩
def y_K_keptRevision : MethodName := ⟨R_K, "keptRevision", "(II)LTextKeeper$Revision;"⟩
def y_K_commit : MethodName := ⟨R_K, "commit", "(II)I"⟩
def y_K_fetch : MethodName := ⟨R_K, "fetch", "(II)I"⟩
def y_K_trim : MethodName := ⟨R_K, "trim", "(II)Z"⟩
def y_K_dropDocument : MethodName := ⟨R_K, "dropDocument", "(I)Z"⟩
def y_K_pieceByte : MethodName := ⟨R_K, "pieceByte", "(III)I"⟩
def y_K_damage : MethodName := ⟨R_K, "damage", "(IIII)Z"⟩
def y_K_verify : MethodName := ⟨R_K, "verify", "(I)I"⟩
def y_K_common : MethodName := ⟨R_K, "common", "(IIII)I"⟩
def y_T_byteAt : MethodName := ⟨R_T, "byteAt", "(I)I"⟩
def y_K_out : MethodName := ⟨R_K, "out", "(I)I"⟩
def y_K_steps : MethodName := ⟨R_K, "steps", "()I"⟩
def y_K_countFree : MethodName := ⟨R_K, "countFree", "()I"⟩
def y_K_freeBlocks : MethodName := ⟨R_K, "freeBlocks", "()I"⟩
def y_K_start : MethodName := ⟨R_K, "start", "()Z"⟩
def y_K_isDown : MethodName := ⟨R_K, "isDown", "()Z"⟩
def y_T_hasRoom : MethodName := ⟨R_T, "hasRoom", "(I)Z"⟩
def y_T_addByte : MethodName := ⟨R_T, "addByte", "(I)V"⟩
def y_T_addInt : MethodName := ⟨R_T, "addInt", "(I)V"⟩
def y_K_feed : MethodName := ⟨R_K, "feed", "(IIIII)Z"⟩
def y_T_shorten : MethodName := ⟨R_T, "shorten", "(I)Z"⟩
def y_K_end : MethodName := ⟨R_K, "end", "(I)Z"⟩
def y_P_lastsFor : MethodName := ⟨R_P, "lastsFor", "(I)Z"⟩
def y_K_spendWrites : MethodName := ⟨R_K, "spendWrites", "(I)V"⟩
def y_D_init : MethodName := ⟨R_D, "<init>", "()V"⟩
def y_K_make : MethodName := ⟨R_K, "make", "()I"⟩
def y_P_goAfter : MethodName := ⟨R_P, "goAfter", "(I)V"⟩
def y_K_cutAfter : MethodName := ⟨R_K, "cutAfter", "(I)Z"⟩
def y_O_runs : MethodName := ⟨R_O, "runs", "(I)Z"⟩
def y_O_thrown : MethodName := ⟨R_O, "thrown", "()I"⟩
def y_O_isDocument : MethodName := ⟨R_O, "isDocument", "(I)Z"⟩
def y_O_isAsked : MethodName := ⟨R_O, "isAsked", "(II)Z"⟩
def y_O_kept : MethodName := ⟨R_O, "kept", "(II)I"⟩
def y_O_writes : MethodName := ⟨R_O, "writes", "(I)Z"⟩
def y_O_make : MethodName := ⟨R_O, "make", "()I"⟩
def y_O_commit : MethodName := ⟨R_O, "commit", "(II)I"⟩
def y_O_fetch : MethodName := ⟨R_O, "fetch", "(II)I"⟩
def y_O_trim : MethodName := ⟨R_O, "trim", "(II)Z"⟩
def y_O_dropDocument : MethodName := ⟨R_O, "dropDocument", "(I)Z"⟩
def y_O_pieceByte : MethodName := ⟨R_O, "pieceByte", "(III)I"⟩
def y_O_damage : MethodName := ⟨R_O, "damage", "(IIII)Z"⟩
def y_O_common : MethodName := ⟨R_O, "common", "(IIII)I"⟩
def y_O_about : MethodName := ⟨R_O, "about", "(II)I"⟩
def y_O_revision : MethodName := ⟨R_O, "revision", "(III)I"⟩
def y_O_out : MethodName := ⟨R_O, "out", "(I)I"⟩
def y_O_steps : MethodName := ⟨R_O, "steps", "()I"⟩
def y_O_start : MethodName := ⟨R_O, "start", "()Z"⟩
def y_O_isDown : MethodName := ⟨R_O, "isDown", "()Z"⟩
def y_O_end : MethodName := ⟨R_O, "end", "(I)Z"⟩
def y_O_cutAfter : MethodName := ⟨R_O, "cutAfter", "(I)Z"⟩
def y_O_init : MethodName := ⟨R_O, "<init>", "()V"⟩
def y_O_feed : MethodName := ⟨R_O, "feed", "(IIIII)Z"⟩
def y_O_free : MethodName := ⟨R_O, "free", "()I"⟩
def y_O_freeBlocks : MethodName := ⟨R_O, "freeBlocks", "()I"⟩
def y_O_verify : MethodName := ⟨R_O, "verify", "(I)I"⟩
def y_K_about : MethodName := ⟨R_K, "about", "(II)I"⟩
def y_L_about : MethodName := ⟨R_L, "about", "(LTextKeeper;II[J)I"⟩
def y_K_revision : MethodName := ⟨R_K, "revision", "(III)I"⟩
def y_L_revision : MethodName := ⟨R_L, "revision", "(LTextKeeper;III[J)I"⟩
def y_L_feed : MethodName := ⟨R_L, "feed", "(LTextKeeper;IIIII[J)I"⟩
def y_L_end : MethodName := ⟨R_L, "end", "(LTextKeeper;I[J)I"⟩
def y_L_make : MethodName := ⟨R_L, "make", "(LTextKeeper;[J)I"⟩
def y_L_commit : MethodName := ⟨R_L, "commit", "(LTextKeeper;II[J)I"⟩
def y_L_fetch : MethodName := ⟨R_L, "fetch", "(LTextKeeper;II[J)I"⟩
def y_L_out : MethodName := ⟨R_L, "out", "(LTextKeeper;I[J)I"⟩
def y_L_steps : MethodName := ⟨R_L, "steps", "(LTextKeeper;[J)I"⟩
def y_L_trim : MethodName := ⟨R_L, "trim", "(LTextKeeper;II[J)I"⟩
def y_L_dropDocument : MethodName := ⟨R_L, "dropDocument", "(LTextKeeper;I[J)I"⟩
def y_L_pieceByte : MethodName := ⟨R_L, "pieceByte", "(LTextKeeper;III[J)I"⟩
def y_L_damage : MethodName := ⟨R_L, "damage", "(LTextKeeper;IIII[J)I"⟩
def y_L_verify : MethodName := ⟨R_L, "verify", "(LTextKeeper;I[J)I"⟩
def y_L_common : MethodName := ⟨R_L, "common", "(LTextKeeper;IIII[J)I"⟩
def y_L_freeBlocks : MethodName := ⟨R_L, "freeBlocks", "(LTextKeeper;[J)I"⟩
def y_L_cutAfter : MethodName := ⟨R_L, "cutAfter", "(LTextKeeper;I[J)I"⟩
end
section
theorem d_P_init_0 : decode prog_5_method_1_code 0 = .ok (.aload_n 0, 1) := by decide +kernel
theorem d_P_init_1 : decode prog_5_method_1_code 1 = .ok (.invokespecial 1, 3) := by decide +kernel
theorem d_P_init_4 : decode prog_5_method_1_code 4 = .ok (.aload_n 0, 1) := by decide +kernel
theorem d_P_init_5 : decode prog_5_method_1_code 5 = .ok (.iconst 0, 1) := by decide +kernel
theorem d_P_init_6 : decode prog_5_method_1_code 6 = .ok (.putfield 7, 3) := by decide +kernel
theorem d_P_init_9 : decode prog_5_method_1_code 9 = .ok (.aload_n 0, 1) := by decide +kernel
theorem d_P_init_10 : decode prog_5_method_1_code 10 = .ok (.iconst 0, 1) := by decide +kernel
theorem d_P_init_11 : decode prog_5_method_1_code 11 = .ok (.putfield 13, 3) := by decide +kernel
theorem d_P_init_14 : decode prog_5_method_1_code 14 = .ok (.aload_n 0, 1) := by decide +kernel
theorem d_P_init_15 : decode prog_5_method_1_code 15 = .ok (.iconst 0, 1) := by decide +kernel
theorem d_P_init_16 : decode prog_5_method_1_code 16 = .ok (.putfield 16, 3) := by decide +kernel
theorem d_P_init_19 : decode prog_5_method_1_code 19 = .ok (.return_, 1) := by decide +kernel
theorem d_T_init_0 : decode prog_7_method_1_code 0 = .ok (.aload_n 0, 1) := by decide +kernel
theorem d_T_init_1 : decode prog_7_method_1_code 1 = .ok (.invokespecial 3, 3) := by decide +kernel
theorem d_T_init_4 : decode prog_7_method_1_code 4 = .ok (.aload_n 0, 1) := by decide +kernel
theorem d_T_init_5 : decode prog_7_method_1_code 5 = .ok (.sipush 256, 3) := by decide +kernel
theorem d_T_init_8 : decode prog_7_method_1_code 8 = .ok (.newarray .byte, 2) := by decide +kernel
theorem d_T_init_10 : decode prog_7_method_1_code 10 = .ok (.putfield 9, 3) := by decide +kernel
theorem d_T_init_13 : decode prog_7_method_1_code 13 = .ok (.aload_n 0, 1) := by decide +kernel
theorem d_T_init_14 : decode prog_7_method_1_code 14 = .ok (.iconst 0, 1) := by decide +kernel
theorem d_T_init_15 : decode prog_7_method_1_code 15 = .ok (.putfield 15, 3) := by decide +kernel
theorem d_T_init_18 : decode prog_7_method_1_code 18 = .ok (.return_, 1) := by decide +kernel
theorem d_W_init_0 : decode prog_4_method_1_code 0 = .ok (.aload_n 0, 1) := by decide +kernel
theorem d_W_init_1 : decode prog_4_method_1_code 1 = .ok (.invokespecial 3, 3) := by decide +kernel
theorem d_W_init_4 : decode prog_4_method_1_code 4 = .ok (.aload_n 0, 1) := by decide +kernel
theorem d_W_init_5 : decode prog_4_method_1_code 5 = .ok (.sipush 512, 3) := by decide +kernel
theorem d_W_init_8 : decode prog_4_method_1_code 8 = .ok (.newarray .byte, 2) := by decide +kernel
theorem d_W_init_10 : decode prog_4_method_1_code 10 = .ok (.putfield 9, 3) := by decide +kernel
theorem d_W_init_13 : decode prog_4_method_1_code 13 = .ok (.aload_n 0, 1) := by decide +kernel
theorem d_W_init_14 : decode prog_4_method_1_code 14 = .ok (.iconst 0, 1) := by decide +kernel
theorem d_W_init_15 : decode prog_4_method_1_code 15 = .ok (.putfield 15, 3) := by decide +kernel
theorem d_W_init_18 : decode prog_4_method_1_code 18 = .ok (.return_, 1) := by decide +kernel
theorem d_M_init_0 : decode prog_3_method_1_code 0 = .ok (.aload_n 0, 1) := by decide +kernel
theorem d_M_init_1 : decode prog_3_method_1_code 1 = .ok (.invokespecial 3, 3) := by decide +kernel
theorem d_M_init_4 : decode prog_3_method_1_code 4 = .ok (.aload_n 0, 1) := by decide +kernel
theorem d_M_init_5 : decode prog_3_method_1_code 5 = .ok (.new 9, 3) := by decide +kernel
theorem d_M_init_8 : decode prog_3_method_1_code 8 = .ok (.dup, 1) := by decide +kernel
theorem d_M_init_9 : decode prog_3_method_1_code 9 = .ok (.invokespecial 11, 3) := by decide +kernel
theorem d_M_init_12 : decode prog_3_method_1_code 12 = .ok (.putfield 12, 3) := by decide +kernel
theorem d_M_init_15 : decode prog_3_method_1_code 15 = .ok (.aload_n 0, 1) := by decide +kernel
theorem d_M_init_16 : decode prog_3_method_1_code 16 = .ok (.new 9, 3) := by decide +kernel
theorem d_M_init_19 : decode prog_3_method_1_code 19 = .ok (.dup, 1) := by decide +kernel
theorem d_M_init_20 : decode prog_3_method_1_code 20 = .ok (.invokespecial 11, 3) := by decide +kernel
theorem d_M_init_23 : decode prog_3_method_1_code 23 = .ok (.putfield 18, 3) := by decide +kernel
theorem d_M_init_26 : decode prog_3_method_1_code 26 = .ok (.aload_n 0, 1) := by decide +kernel
theorem d_M_init_27 : decode prog_3_method_1_code 27 = .ok (.iconst 0, 1) := by decide +kernel
theorem d_M_init_28 : decode prog_3_method_1_code 28 = .ok (.newarray .byte, 2) := by decide +kernel
theorem d_M_init_30 : decode prog_3_method_1_code 30 = .ok (.putfield 21, 3) := by decide +kernel
theorem d_M_init_33 : decode prog_3_method_1_code 33 = .ok (.aload_n 0, 1) := by decide +kernel
theorem d_M_init_34 : decode prog_3_method_1_code 34 = .ok (.iconst 0, 1) := by decide +kernel
theorem d_M_init_35 : decode prog_3_method_1_code 35 = .ok (.putfield 25, 3) := by decide +kernel
theorem d_M_init_38 : decode prog_3_method_1_code 38 = .ok (.return_, 1) := by decide +kernel
theorem d_K_init_0 : decode prog_1_method_1_code 0 = .ok (.aload_n 0, 1) := by decide +kernel
theorem d_K_init_1 : decode prog_1_method_1_code 1 = .ok (.invokespecial 1, 3) := by decide +kernel
theorem d_K_init_4 : decode prog_1_method_1_code 4 = .ok (.aload_n 0, 1) := by decide +kernel
theorem d_K_init_5 : decode prog_1_method_1_code 5 = .ok (.bipush 8, 2) := by decide +kernel
theorem d_K_init_7 : decode prog_1_method_1_code 7 = .ok (.anewarray 9, 3) := by decide +kernel
theorem d_K_init_10 : decode prog_1_method_1_code 10 = .ok (.putfield 11, 3) := by decide +kernel
theorem d_K_init_13 : decode prog_1_method_1_code 13 = .ok (.aload_n 0, 1) := by decide +kernel
theorem d_K_init_14 : decode prog_1_method_1_code 14 = .ok (.new 15, 3) := by decide +kernel
theorem d_K_init_17 : decode prog_1_method_1_code 17 = .ok (.dup, 1) := by decide +kernel
theorem d_K_init_18 : decode prog_1_method_1_code 18 = .ok (.invokespecial 17, 3) := by decide +kernel
theorem d_K_init_21 : decode prog_1_method_1_code 21 = .ok (.putfield 18, 3) := by decide +kernel
theorem d_K_init_24 : decode prog_1_method_1_code 24 = .ok (.aload_n 0, 1) := by decide +kernel
theorem d_K_init_25 : decode prog_1_method_1_code 25 = .ok (.new 15, 3) := by decide +kernel
theorem d_K_init_28 : decode prog_1_method_1_code 28 = .ok (.dup, 1) := by decide +kernel
theorem d_K_init_29 : decode prog_1_method_1_code 29 = .ok (.invokespecial 17, 3) := by decide +kernel
theorem d_K_init_32 : decode prog_1_method_1_code 32 = .ok (.putfield 22, 3) := by decide +kernel
theorem d_K_init_35 : decode prog_1_method_1_code 35 = .ok (.aload_n 0, 1) := by decide +kernel
theorem d_K_init_36 : decode prog_1_method_1_code 36 = .ok (.new 15, 3) := by decide +kernel
theorem d_K_init_39 : decode prog_1_method_1_code 39 = .ok (.dup, 1) := by decide +kernel
theorem d_K_init_40 : decode prog_1_method_1_code 40 = .ok (.invokespecial 17, 3) := by decide +kernel
theorem d_K_init_43 : decode prog_1_method_1_code 43 = .ok (.putfield 25, 3) := by decide +kernel
theorem d_K_init_46 : decode prog_1_method_1_code 46 = .ok (.aload_n 0, 1) := by decide +kernel
theorem d_K_init_47 : decode prog_1_method_1_code 47 = .ok (.new 28, 3) := by decide +kernel
theorem d_K_init_50 : decode prog_1_method_1_code 50 = .ok (.dup, 1) := by decide +kernel
theorem d_K_init_51 : decode prog_1_method_1_code 51 = .ok (.invokespecial 30, 3) := by decide +kernel
theorem d_K_init_54 : decode prog_1_method_1_code 54 = .ok (.putfield 31, 3) := by decide +kernel
theorem d_K_init_57 : decode prog_1_method_1_code 57 = .ok (.aload_n 0, 1) := by decide +kernel
theorem d_K_init_58 : decode prog_1_method_1_code 58 = .ok (.new 35, 3) := by decide +kernel
theorem d_K_init_61 : decode prog_1_method_1_code 61 = .ok (.dup, 1) := by decide +kernel
theorem d_K_init_62 : decode prog_1_method_1_code 62 = .ok (.invokespecial 37, 3) := by decide +kernel
theorem d_K_init_65 : decode prog_1_method_1_code 65 = .ok (.putfield 38, 3) := by decide +kernel
theorem d_K_init_68 : decode prog_1_method_1_code 68 = .ok (.aload_n 0, 1) := by decide +kernel
theorem d_K_init_69 : decode prog_1_method_1_code 69 = .ok (.new 42, 3) := by decide +kernel
theorem d_K_init_72 : decode prog_1_method_1_code 72 = .ok (.dup, 1) := by decide +kernel
theorem d_K_init_73 : decode prog_1_method_1_code 73 = .ok (.invokespecial 44, 3) := by decide +kernel
theorem d_K_init_76 : decode prog_1_method_1_code 76 = .ok (.putfield 45, 3) := by decide +kernel
theorem d_K_init_79 : decode prog_1_method_1_code 79 = .ok (.aload_n 0, 1) := by decide +kernel
theorem d_K_init_80 : decode prog_1_method_1_code 80 = .ok (.iconst 0, 1) := by decide +kernel
theorem d_K_init_81 : decode prog_1_method_1_code 81 = .ok (.putfield 49, 3) := by decide +kernel
theorem d_K_init_84 : decode prog_1_method_1_code 84 = .ok (.aload_n 0, 1) := by decide +kernel
theorem d_K_init_85 : decode prog_1_method_1_code 85 = .ok (.iconst (-1), 1) := by decide +kernel
theorem d_K_init_86 : decode prog_1_method_1_code 86 = .ok (.putfield 53, 3) := by decide +kernel
theorem d_K_init_89 : decode prog_1_method_1_code 89 = .ok (.return_, 1) := by decide +kernel
theorem d_K_needPower_0 : decode prog_1_method_21_code 0 = .ok (.aload_n 0, 1) := by decide +kernel
theorem d_K_needPower_1 : decode prog_1_method_21_code 1 = .ok (.getfield 45, 3) := by decide +kernel
theorem d_K_needPower_4 : decode prog_1_method_21_code 4 = .ok (.getfield 180, 3) := by decide +kernel
theorem d_K_needPower_7 : decode prog_1_method_21_code 7 = .ok (.ifCond .eq 11, 3) := by decide +kernel
theorem d_K_needPower_18 : decode prog_1_method_21_code 18 = .ok (.return_, 1) := by decide +kernel
theorem d_K_documentAt_0 : decode prog_1_method_23_code 0 = .ok (.iload_n 1, 1) := by decide +kernel
theorem d_K_documentAt_1 : decode prog_1_method_23_code 1 = .ok (.ifCond .lt 18, 3) := by decide +kernel
theorem d_K_documentAt_4 : decode prog_1_method_23_code 4 = .ok (.iload_n 1, 1) := by decide +kernel
theorem d_K_documentAt_5 : decode prog_1_method_23_code 5 = .ok (.bipush 8, 2) := by decide +kernel
theorem d_K_documentAt_7 : decode prog_1_method_23_code 7 = .ok (.if_icmp .ge 12, 3) := by decide +kernel
theorem d_K_documentAt_10 : decode prog_1_method_23_code 10 = .ok (.aload_n 0, 1) := by decide +kernel
theorem d_K_documentAt_11 : decode prog_1_method_23_code 11 = .ok (.getfield 11, 3) := by decide +kernel
theorem d_K_documentAt_14 : decode prog_1_method_23_code 14 = .ok (.iload_n 1, 1) := by decide +kernel
theorem d_K_documentAt_15 : decode prog_1_method_23_code 15 = .ok (.aaload, 1) := by decide +kernel
theorem d_K_documentAt_16 : decode prog_1_method_23_code 16 = .ok (.goto 4, 3) := by decide +kernel
theorem d_K_documentAt_19 : decode prog_1_method_23_code 19 = .ok (.aconst_null, 1) := by decide +kernel
theorem d_K_documentAt_20 : decode prog_1_method_23_code 20 = .ok (.areturn, 1) := by decide +kernel
theorem d_K_keptRevision_0 : decode prog_1_method_24_code 0 = .ok (.aload_n 0, 1) := by decide +kernel
theorem d_K_keptRevision_1 : decode prog_1_method_24_code 1 = .ok (.iload_n 1, 1) := by decide +kernel
theorem d_K_keptRevision_2 : decode prog_1_method_24_code 2 = .ok (.invokevirtual 74, 3) := by decide +kernel
theorem d_K_keptRevision_5 : decode prog_1_method_24_code 5 = .ok (.astore_n 3, 1) := by decide +kernel
theorem d_K_keptRevision_6 : decode prog_1_method_24_code 6 = .ok (.aload_n 3, 1) := by decide +kernel
theorem d_K_keptRevision_7 : decode prog_1_method_24_code 7 = .ok (.ifnonnull 7, 3) := by decide +kernel
theorem d_K_keptRevision_10 : decode prog_1_method_24_code 10 = .ok (.aconst_null, 1) := by decide +kernel
theorem d_K_keptRevision_11 : decode prog_1_method_24_code 11 = .ok (.goto 8, 3) := by decide +kernel
theorem d_K_keptRevision_19 : decode prog_1_method_24_code 19 = .ok (.areturn, 1) := by decide +kernel
theorem d_K_commit_0 : decode prog_1_method_5_code 0 = .ok (.aload_n 0, 1) := by decide +kernel
theorem d_K_commit_1 : decode prog_1_method_5_code 1 = .ok (.invokevirtual 56, 3) := by decide +kernel
theorem d_K_commit_4 : decode prog_1_method_5_code 4 = .ok (.aload_n 0, 1) := by decide +kernel
theorem d_K_commit_5 : decode prog_1_method_5_code 5 = .ok (.iload_n 1, 1) := by decide +kernel
theorem d_K_commit_6 : decode prog_1_method_5_code 6 = .ok (.invokevirtual 74, 3) := by decide +kernel
theorem d_K_commit_9 : decode prog_1_method_5_code 9 = .ok (.astore_n 3, 1) := by decide +kernel
theorem d_K_commit_10 : decode prog_1_method_5_code 10 = .ok (.aload_n 3, 1) := by decide +kernel
theorem d_K_commit_11 : decode prog_1_method_5_code 11 = .ok (.ifnull 10, 3) := by decide +kernel
theorem d_K_commit_21 : decode prog_1_method_5_code 21 = .ok (.iconst (-1), 1) := by decide +kernel
theorem d_K_commit_22 : decode prog_1_method_5_code 22 = .ok (.ireturn, 1) := by decide +kernel
theorem d_K_fetch_0 : decode prog_1_method_6_code 0 = .ok (.aload_n 0, 1) := by decide +kernel
theorem d_K_fetch_1 : decode prog_1_method_6_code 1 = .ok (.invokevirtual 56, 3) := by decide +kernel
theorem d_K_fetch_4 : decode prog_1_method_6_code 4 = .ok (.aload_n 0, 1) := by decide +kernel
theorem d_K_fetch_5 : decode prog_1_method_6_code 5 = .ok (.iload_n 1, 1) := by decide +kernel
theorem d_K_fetch_6 : decode prog_1_method_6_code 6 = .ok (.invokevirtual 74, 3) := by decide +kernel
theorem d_K_fetch_9 : decode prog_1_method_6_code 9 = .ok (.astore_n 3, 1) := by decide +kernel
theorem d_K_fetch_10 : decode prog_1_method_6_code 10 = .ok (.aload_n 3, 1) := by decide +kernel
theorem d_K_fetch_11 : decode prog_1_method_6_code 11 = .ok (.ifnull 11, 3) := by decide +kernel
theorem d_K_fetch_22 : decode prog_1_method_6_code 22 = .ok (.iconst (-1), 1) := by decide +kernel
theorem d_K_fetch_23 : decode prog_1_method_6_code 23 = .ok (.ireturn, 1) := by decide +kernel
theorem d_K_trim_0 : decode prog_1_method_9_code 0 = .ok (.aload_n 0, 1) := by decide +kernel
theorem d_K_trim_1 : decode prog_1_method_9_code 1 = .ok (.invokevirtual 56, 3) := by decide +kernel
theorem d_K_trim_4 : decode prog_1_method_9_code 4 = .ok (.aload_n 0, 1) := by decide +kernel
theorem d_K_trim_5 : decode prog_1_method_9_code 5 = .ok (.iload_n 1, 1) := by decide +kernel
theorem d_K_trim_6 : decode prog_1_method_9_code 6 = .ok (.invokevirtual 74, 3) := by decide +kernel
theorem d_K_trim_9 : decode prog_1_method_9_code 9 = .ok (.astore_n 3, 1) := by decide +kernel
theorem d_K_trim_10 : decode prog_1_method_9_code 10 = .ok (.aload_n 3, 1) := by decide +kernel
theorem d_K_trim_11 : decode prog_1_method_9_code 11 = .ok (.ifnull 11, 3) := by decide +kernel
theorem d_K_trim_22 : decode prog_1_method_9_code 22 = .ok (.iconst 0, 1) := by decide +kernel
theorem d_K_trim_23 : decode prog_1_method_9_code 23 = .ok (.ireturn, 1) := by decide +kernel
theorem d_K_dropDocument_0 : decode prog_1_method_10_code 0 = .ok (.aload_n 0, 1) := by decide +kernel
theorem d_K_dropDocument_1 : decode prog_1_method_10_code 1 = .ok (.invokevirtual 56, 3) := by decide +kernel
theorem d_K_dropDocument_4 : decode prog_1_method_10_code 4 = .ok (.aload_n 0, 1) := by decide +kernel
theorem d_K_dropDocument_5 : decode prog_1_method_10_code 5 = .ok (.iload_n 1, 1) := by decide +kernel
theorem d_K_dropDocument_6 : decode prog_1_method_10_code 6 = .ok (.invokevirtual 74, 3) := by decide +kernel
theorem d_K_dropDocument_9 : decode prog_1_method_10_code 9 = .ok (.ifnonnull 5, 3) := by decide +kernel
theorem d_K_dropDocument_12 : decode prog_1_method_10_code 12 = .ok (.iconst 0, 1) := by decide +kernel
theorem d_K_dropDocument_13 : decode prog_1_method_10_code 13 = .ok (.ireturn, 1) := by decide +kernel
theorem d_K_pieceByte_0 : decode prog_1_method_13_code 0 = .ok (.aload_n 0, 1) := by decide +kernel
theorem d_K_pieceByte_1 : decode prog_1_method_13_code 1 = .ok (.invokevirtual 56, 3) := by decide +kernel
theorem d_K_pieceByte_4 : decode prog_1_method_13_code 4 = .ok (.aload_n 0, 1) := by decide +kernel
theorem d_K_pieceByte_5 : decode prog_1_method_13_code 5 = .ok (.iload_n 1, 1) := by decide +kernel
theorem d_K_pieceByte_6 : decode prog_1_method_13_code 6 = .ok (.iload_n 2, 1) := by decide +kernel
theorem d_K_pieceByte_7 : decode prog_1_method_13_code 7 = .ok (.invokevirtual 149, 3) := by decide +kernel
theorem d_K_pieceByte_10 : decode prog_1_method_13_code 10 = .ok (.astore 4, 2) := by decide +kernel
theorem d_K_pieceByte_12 : decode prog_1_method_13_code 12 = .ok (.aload 4, 2) := by decide +kernel
theorem d_K_pieceByte_14 : decode prog_1_method_13_code 14 = .ok (.ifnull 12, 3) := by decide +kernel
theorem d_K_pieceByte_26 : decode prog_1_method_13_code 26 = .ok (.iconst (-1), 1) := by decide +kernel
theorem d_K_pieceByte_27 : decode prog_1_method_13_code 27 = .ok (.ireturn, 1) := by decide +kernel
theorem d_K_damage_0 : decode prog_1_method_14_code 0 = .ok (.aload_n 0, 1) := by decide +kernel
theorem d_K_damage_1 : decode prog_1_method_14_code 1 = .ok (.invokevirtual 56, 3) := by decide +kernel
theorem d_K_damage_4 : decode prog_1_method_14_code 4 = .ok (.aload_n 0, 1) := by decide +kernel
theorem d_K_damage_5 : decode prog_1_method_14_code 5 = .ok (.iload_n 1, 1) := by decide +kernel
theorem d_K_damage_6 : decode prog_1_method_14_code 6 = .ok (.iload_n 2, 1) := by decide +kernel
theorem d_K_damage_7 : decode prog_1_method_14_code 7 = .ok (.invokevirtual 149, 3) := by decide +kernel
theorem d_K_damage_10 : decode prog_1_method_14_code 10 = .ok (.astore 5, 2) := by decide +kernel
theorem d_K_damage_12 : decode prog_1_method_14_code 12 = .ok (.aload 5, 2) := by decide +kernel
theorem d_K_damage_14 : decode prog_1_method_14_code 14 = .ok (.ifnull 12, 3) := by decide +kernel
theorem d_K_damage_26 : decode prog_1_method_14_code 26 = .ok (.iconst 0, 1) := by decide +kernel
theorem d_K_damage_27 : decode prog_1_method_14_code 27 = .ok (.ireturn, 1) := by decide +kernel
theorem d_K_verify_0 : decode prog_1_method_15_code 0 = .ok (.aload_n 0, 1) := by decide +kernel
theorem d_K_verify_1 : decode prog_1_method_15_code 1 = .ok (.invokevirtual 56, 3) := by decide +kernel
theorem d_K_verify_4 : decode prog_1_method_15_code 4 = .ok (.aload_n 0, 1) := by decide +kernel
theorem d_K_verify_5 : decode prog_1_method_15_code 5 = .ok (.iload_n 1, 1) := by decide +kernel
theorem d_K_verify_6 : decode prog_1_method_15_code 6 = .ok (.invokevirtual 74, 3) := by decide +kernel
theorem d_K_verify_9 : decode prog_1_method_15_code 9 = .ok (.astore_n 2, 1) := by decide +kernel
theorem d_K_verify_10 : decode prog_1_method_15_code 10 = .ok (.aload_n 2, 1) := by decide +kernel
theorem d_K_verify_11 : decode prog_1_method_15_code 11 = .ok (.ifnonnull 5, 3) := by decide +kernel
theorem d_K_verify_14 : decode prog_1_method_15_code 14 = .ok (.iconst (-1), 1) := by decide +kernel
theorem d_K_verify_15 : decode prog_1_method_15_code 15 = .ok (.ireturn, 1) := by decide +kernel
theorem d_K_common_0 : decode prog_1_method_16_code 0 = .ok (.aload_n 0, 1) := by decide +kernel
theorem d_K_common_1 : decode prog_1_method_16_code 1 = .ok (.invokevirtual 56, 3) := by decide +kernel
theorem d_K_common_4 : decode prog_1_method_16_code 4 = .ok (.aload_n 0, 1) := by decide +kernel
theorem d_K_common_5 : decode prog_1_method_16_code 5 = .ok (.iload_n 1, 1) := by decide +kernel
theorem d_K_common_6 : decode prog_1_method_16_code 6 = .ok (.invokevirtual 74, 3) := by decide +kernel
theorem d_K_common_9 : decode prog_1_method_16_code 9 = .ok (.astore 5, 2) := by decide +kernel
theorem d_K_common_11 : decode prog_1_method_16_code 11 = .ok (.aload 5, 2) := by decide +kernel
theorem d_K_common_13 : decode prog_1_method_16_code 13 = .ok (.ifnull 21, 3) := by decide +kernel
theorem d_K_common_34 : decode prog_1_method_16_code 34 = .ok (.iconst (-1), 1) := by decide +kernel
theorem d_K_common_35 : decode prog_1_method_16_code 35 = .ok (.ireturn, 1) := by decide +kernel
theorem d_T_byteAt_0 : decode prog_7_method_2_code 0 = .ok (.iload_n 1, 1) := by decide +kernel
theorem d_T_byteAt_1 : decode prog_7_method_2_code 1 = .ok (.ifCond .lt 24, 3) := by decide +kernel
theorem d_T_byteAt_4 : decode prog_7_method_2_code 4 = .ok (.iload_n 1, 1) := by decide +kernel
theorem d_T_byteAt_5 : decode prog_7_method_2_code 5 = .ok (.aload_n 0, 1) := by decide +kernel
theorem d_T_byteAt_6 : decode prog_7_method_2_code 6 = .ok (.getfield 15, 3) := by decide +kernel
theorem d_T_byteAt_9 : decode prog_7_method_2_code 9 = .ok (.if_icmp .ge 16, 3) := by decide +kernel
theorem d_T_byteAt_25 : decode prog_7_method_2_code 25 = .ok (.iconst (-1), 1) := by decide +kernel
theorem d_T_byteAt_26 : decode prog_7_method_2_code 26 = .ok (.ireturn, 1) := by decide +kernel
theorem d_K_out_0 : decode prog_1_method_7_code 0 = .ok (.aload_n 0, 1) := by decide +kernel
theorem d_K_out_1 : decode prog_1_method_7_code 1 = .ok (.invokevirtual 56, 3) := by decide +kernel
theorem d_K_out_4 : decode prog_1_method_7_code 4 = .ok (.aload_n 0, 1) := by decide +kernel
theorem d_K_out_5 : decode prog_1_method_7_code 5 = .ok (.getfield 22, 3) := by decide +kernel
theorem d_K_out_8 : decode prog_1_method_7_code 8 = .ok (.iload_n 1, 1) := by decide +kernel
theorem d_K_out_9 : decode prog_1_method_7_code 9 = .ok (.invokevirtual 134, 3) := by decide +kernel
theorem d_K_out_12 : decode prog_1_method_7_code 12 = .ok (.ireturn, 1) := by decide +kernel
theorem d_K_steps_0 : decode prog_1_method_8_code 0 = .ok (.aload_n 0, 1) := by decide +kernel
theorem d_K_steps_1 : decode prog_1_method_8_code 1 = .ok (.invokevirtual 56, 3) := by decide +kernel
theorem d_K_steps_4 : decode prog_1_method_8_code 4 = .ok (.aload_n 0, 1) := by decide +kernel
theorem d_K_steps_5 : decode prog_1_method_8_code 5 = .ok (.getfield 53, 3) := by decide +kernel
theorem d_K_steps_8 : decode prog_1_method_8_code 8 = .ok (.ireturn, 1) := by decide +kernel
theorem d_K_countFree_0 : decode prog_1_method_26_code 0 = .ok (.sipush 512, 3) := by decide +kernel
theorem d_K_countFree_3 : decode prog_1_method_26_code 3 = .ok (.istore_n 1, 1) := by decide +kernel
theorem d_K_countFree_4 : decode prog_1_method_26_code 4 = .ok (.aload_n 0, 1) := by decide +kernel
theorem d_K_countFree_5 : decode prog_1_method_26_code 5 = .ok (.getfield 11, 3) := by decide +kernel
theorem d_K_countFree_8 : decode prog_1_method_26_code 8 = .ok (.astore_n 2, 1) := by decide +kernel
theorem d_K_countFree_9 : decode prog_1_method_26_code 9 = .ok (.aload_n 2, 1) := by decide +kernel
theorem d_K_countFree_10 : decode prog_1_method_26_code 10 = .ok (.arraylength, 1) := by decide +kernel
theorem d_K_countFree_11 : decode prog_1_method_26_code 11 = .ok (.istore_n 3, 1) := by decide +kernel
theorem d_K_countFree_12 : decode prog_1_method_26_code 12 = .ok (.iconst 0, 1) := by decide +kernel
theorem d_K_countFree_13 : decode prog_1_method_26_code 13 = .ok (.istore 4, 2) := by decide +kernel
theorem d_K_countFree_15 : decode prog_1_method_26_code 15 = .ok (.iload 4, 2) := by decide +kernel
theorem d_K_countFree_17 : decode prog_1_method_26_code 17 = .ok (.iload_n 3, 1) := by decide +kernel
theorem d_K_countFree_18 : decode prog_1_method_26_code 18 = .ok (.if_icmp .ge 28, 3) := by decide +kernel
theorem d_K_countFree_21 : decode prog_1_method_26_code 21 = .ok (.aload_n 2, 1) := by decide +kernel
theorem d_K_countFree_22 : decode prog_1_method_26_code 22 = .ok (.iload 4, 2) := by decide +kernel
theorem d_K_countFree_24 : decode prog_1_method_26_code 24 = .ok (.aaload, 1) := by decide +kernel
theorem d_K_countFree_25 : decode prog_1_method_26_code 25 = .ok (.astore 5, 2) := by decide +kernel
theorem d_K_countFree_27 : decode prog_1_method_26_code 27 = .ok (.aload 5, 2) := by decide +kernel
theorem d_K_countFree_29 : decode prog_1_method_26_code 29 = .ok (.ifnull 11, 3) := by decide +kernel
theorem d_K_countFree_40 : decode prog_1_method_26_code 40 = .ok (.iinc 4 1, 3) := by decide +kernel
theorem d_K_countFree_43 : decode prog_1_method_26_code 43 = .ok (.goto (-28), 3) := by decide +kernel
theorem d_K_countFree_46 : decode prog_1_method_26_code 46 = .ok (.iload_n 1, 1) := by decide +kernel
theorem d_K_countFree_47 : decode prog_1_method_26_code 47 = .ok (.ireturn, 1) := by decide +kernel
theorem d_K_freeBlocks_0 : decode prog_1_method_17_code 0 = .ok (.aload_n 0, 1) := by decide +kernel
theorem d_K_freeBlocks_1 : decode prog_1_method_17_code 1 = .ok (.invokevirtual 56, 3) := by decide +kernel
theorem d_K_freeBlocks_4 : decode prog_1_method_17_code 4 = .ok (.aload_n 0, 1) := by decide +kernel
theorem d_K_freeBlocks_5 : decode prog_1_method_17_code 5 = .ok (.invokevirtual 97, 3) := by decide +kernel
theorem d_K_freeBlocks_8 : decode prog_1_method_17_code 8 = .ok (.ireturn, 1) := by decide +kernel
theorem d_K_start_0 : decode prog_1_method_19_code 0 = .ok (.aload_n 0, 1) := by decide +kernel
theorem d_K_start_1 : decode prog_1_method_19_code 1 = .ok (.getfield 45, 3) := by decide +kernel
theorem d_K_start_4 : decode prog_1_method_19_code 4 = .ok (.getfield 180, 3) := by decide +kernel
theorem d_K_start_7 : decode prog_1_method_19_code 7 = .ok (.ifCond .ne 5, 3) := by decide +kernel
theorem d_K_start_10 : decode prog_1_method_19_code 10 = .ok (.iconst 0, 1) := by decide +kernel
theorem d_K_start_11 : decode prog_1_method_19_code 11 = .ok (.ireturn, 1) := by decide +kernel
theorem d_K_isDown_0 : decode prog_1_method_20_code 0 = .ok (.aload_n 0, 1) := by decide +kernel
theorem d_K_isDown_1 : decode prog_1_method_20_code 1 = .ok (.getfield 45, 3) := by decide +kernel
theorem d_K_isDown_4 : decode prog_1_method_20_code 4 = .ok (.getfield 180, 3) := by decide +kernel
theorem d_K_isDown_7 : decode prog_1_method_20_code 7 = .ok (.ireturn, 1) := by decide +kernel
theorem d_T_hasRoom_0 : decode prog_7_method_3_code 0 = .ok (.iload_n 1, 1) := by decide +kernel
theorem d_T_hasRoom_1 : decode prog_7_method_3_code 1 = .ok (.sipush 256, 3) := by decide +kernel
theorem d_T_hasRoom_4 : decode prog_7_method_3_code 4 = .ok (.aload_n 0, 1) := by decide +kernel
theorem d_T_hasRoom_5 : decode prog_7_method_3_code 5 = .ok (.getfield 15, 3) := by decide +kernel
theorem d_T_hasRoom_8 : decode prog_7_method_3_code 8 = .ok (.isub, 1) := by decide +kernel
theorem d_T_hasRoom_9 : decode prog_7_method_3_code 9 = .ok (.if_icmp .gt 7, 3) := by decide +kernel
theorem d_T_hasRoom_12 : decode prog_7_method_3_code 12 = .ok (.iconst 1, 1) := by decide +kernel
theorem d_T_hasRoom_13 : decode prog_7_method_3_code 13 = .ok (.goto 4, 3) := by decide +kernel
theorem d_T_hasRoom_17 : decode prog_7_method_3_code 17 = .ok (.ireturn, 1) := by decide +kernel
theorem d_T_addByte_0 : decode prog_7_method_4_code 0 = .ok (.aload_n 0, 1) := by decide +kernel
theorem d_T_addByte_1 : decode prog_7_method_4_code 1 = .ok (.getfield 15, 3) := by decide +kernel
theorem d_T_addByte_4 : decode prog_7_method_4_code 4 = .ok (.sipush 256, 3) := by decide +kernel
theorem d_T_addByte_7 : decode prog_7_method_4_code 7 = .ok (.if_icmp .ge 24, 3) := by decide +kernel
theorem d_T_addByte_10 : decode prog_7_method_4_code 10 = .ok (.aload_n 0, 1) := by decide +kernel
theorem d_T_addByte_11 : decode prog_7_method_4_code 11 = .ok (.getfield 9, 3) := by decide +kernel
theorem d_T_addByte_14 : decode prog_7_method_4_code 14 = .ok (.aload_n 0, 1) := by decide +kernel
theorem d_T_addByte_15 : decode prog_7_method_4_code 15 = .ok (.getfield 15, 3) := by decide +kernel
theorem d_T_addByte_18 : decode prog_7_method_4_code 18 = .ok (.iload_n 1, 1) := by decide +kernel
theorem d_T_addByte_19 : decode prog_7_method_4_code 19 = .ok (.i2b, 1) := by decide +kernel
theorem d_T_addByte_20 : decode prog_7_method_4_code 20 = .ok (.bastore, 1) := by decide +kernel
theorem d_T_addByte_21 : decode prog_7_method_4_code 21 = .ok (.aload_n 0, 1) := by decide +kernel
theorem d_T_addByte_22 : decode prog_7_method_4_code 22 = .ok (.dup, 1) := by decide +kernel
theorem d_T_addByte_23 : decode prog_7_method_4_code 23 = .ok (.getfield 15, 3) := by decide +kernel
theorem d_T_addByte_26 : decode prog_7_method_4_code 26 = .ok (.iconst 1, 1) := by decide +kernel
theorem d_T_addByte_27 : decode prog_7_method_4_code 27 = .ok (.iadd, 1) := by decide +kernel
theorem d_T_addByte_28 : decode prog_7_method_4_code 28 = .ok (.putfield 15, 3) := by decide +kernel
theorem d_T_addByte_31 : decode prog_7_method_4_code 31 = .ok (.return_, 1) := by decide +kernel
theorem d_T_addInt_0 : decode prog_7_method_5_code 0 = .ok (.bipush 24, 2) := by decide +kernel
theorem d_T_addInt_2 : decode prog_7_method_5_code 2 = .ok (.istore_n 2, 1) := by decide +kernel
theorem d_T_addInt_3 : decode prog_7_method_5_code 3 = .ok (.iload_n 2, 1) := by decide +kernel
theorem d_T_addInt_4 : decode prog_7_method_5_code 4 = .ok (.ifCond .lt 16, 3) := by decide +kernel
theorem d_T_addInt_7 : decode prog_7_method_5_code 7 = .ok (.aload_n 0, 1) := by decide +kernel
theorem d_T_addInt_8 : decode prog_7_method_5_code 8 = .ok (.iload_n 1, 1) := by decide +kernel
theorem d_T_addInt_9 : decode prog_7_method_5_code 9 = .ok (.iload_n 2, 1) := by decide +kernel
theorem d_T_addInt_10 : decode prog_7_method_5_code 10 = .ok (.ishr, 1) := by decide +kernel
theorem d_T_addInt_11 : decode prog_7_method_5_code 11 = .ok (.invokevirtual 19, 3) := by decide +kernel
theorem d_T_addInt_14 : decode prog_7_method_5_code 14 = .ok (.iinc 2 (-8), 3) := by decide +kernel
theorem d_T_addInt_17 : decode prog_7_method_5_code 17 = .ok (.goto (-14), 3) := by decide +kernel
theorem d_T_addInt_20 : decode prog_7_method_5_code 20 = .ok (.return_, 1) := by decide +kernel
theorem d_K_feed_0 : decode prog_1_method_2_code 0 = .ok (.aload_n 0, 1) := by decide +kernel
theorem d_K_feed_1 : decode prog_1_method_2_code 1 = .ok (.invokevirtual 56, 3) := by decide +kernel
theorem d_K_feed_4 : decode prog_1_method_2_code 4 = .ok (.aload_n 0, 1) := by decide +kernel
theorem d_K_feed_5 : decode prog_1_method_2_code 5 = .ok (.getfield 18, 3) := by decide +kernel
theorem d_K_feed_8 : decode prog_1_method_2_code 8 = .ok (.bipush 20, 2) := by decide +kernel
theorem d_K_feed_10 : decode prog_1_method_2_code 10 = .ok (.invokevirtual 59, 3) := by decide +kernel
theorem d_K_feed_13 : decode prog_1_method_2_code 13 = .ok (.ifCond .ne 5, 3) := by decide +kernel
theorem d_K_feed_18 : decode prog_1_method_2_code 18 = .ok (.aload_n 0, 1) := by decide +kernel
theorem d_K_feed_19 : decode prog_1_method_2_code 19 = .ok (.getfield 18, 3) := by decide +kernel
theorem d_K_feed_22 : decode prog_1_method_2_code 22 = .ok (.iload_n 1, 1) := by decide +kernel
theorem d_K_feed_23 : decode prog_1_method_2_code 23 = .ok (.invokevirtual 63, 3) := by decide +kernel
theorem d_K_feed_26 : decode prog_1_method_2_code 26 = .ok (.aload_n 0, 1) := by decide +kernel
theorem d_K_feed_27 : decode prog_1_method_2_code 27 = .ok (.getfield 18, 3) := by decide +kernel
theorem d_K_feed_30 : decode prog_1_method_2_code 30 = .ok (.iload_n 2, 1) := by decide +kernel
theorem d_K_feed_31 : decode prog_1_method_2_code 31 = .ok (.invokevirtual 63, 3) := by decide +kernel
theorem d_K_feed_34 : decode prog_1_method_2_code 34 = .ok (.aload_n 0, 1) := by decide +kernel
theorem d_K_feed_35 : decode prog_1_method_2_code 35 = .ok (.getfield 18, 3) := by decide +kernel
theorem d_K_feed_38 : decode prog_1_method_2_code 38 = .ok (.iload_n 3, 1) := by decide +kernel
theorem d_K_feed_39 : decode prog_1_method_2_code 39 = .ok (.invokevirtual 63, 3) := by decide +kernel
theorem d_K_feed_42 : decode prog_1_method_2_code 42 = .ok (.aload_n 0, 1) := by decide +kernel
theorem d_K_feed_43 : decode prog_1_method_2_code 43 = .ok (.getfield 18, 3) := by decide +kernel
theorem d_K_feed_46 : decode prog_1_method_2_code 46 = .ok (.iload 4, 2) := by decide +kernel
theorem d_K_feed_48 : decode prog_1_method_2_code 48 = .ok (.invokevirtual 63, 3) := by decide +kernel
theorem d_K_feed_51 : decode prog_1_method_2_code 51 = .ok (.aload_n 0, 1) := by decide +kernel
theorem d_K_feed_52 : decode prog_1_method_2_code 52 = .ok (.getfield 18, 3) := by decide +kernel
theorem d_K_feed_55 : decode prog_1_method_2_code 55 = .ok (.iload 5, 2) := by decide +kernel
theorem d_K_feed_57 : decode prog_1_method_2_code 57 = .ok (.invokevirtual 63, 3) := by decide +kernel
theorem d_K_feed_60 : decode prog_1_method_2_code 60 = .ok (.iconst 1, 1) := by decide +kernel
theorem d_K_feed_61 : decode prog_1_method_2_code 61 = .ok (.ireturn, 1) := by decide +kernel
theorem d_T_shorten_0 : decode prog_7_method_6_code 0 = .ok (.iload_n 1, 1) := by decide +kernel
theorem d_T_shorten_1 : decode prog_7_method_6_code 1 = .ok (.ifCond .lt 11, 3) := by decide +kernel
theorem d_T_shorten_4 : decode prog_7_method_6_code 4 = .ok (.iload_n 1, 1) := by decide +kernel
theorem d_T_shorten_5 : decode prog_7_method_6_code 5 = .ok (.aload_n 0, 1) := by decide +kernel
theorem d_T_shorten_6 : decode prog_7_method_6_code 6 = .ok (.getfield 15, 3) := by decide +kernel
theorem d_T_shorten_9 : decode prog_7_method_6_code 9 = .ok (.if_icmp .le 5, 3) := by decide +kernel
theorem d_T_shorten_12 : decode prog_7_method_6_code 12 = .ok (.iconst 0, 1) := by decide +kernel
theorem d_T_shorten_13 : decode prog_7_method_6_code 13 = .ok (.ireturn, 1) := by decide +kernel
theorem d_T_shorten_14 : decode prog_7_method_6_code 14 = .ok (.aload_n 0, 1) := by decide +kernel
theorem d_T_shorten_15 : decode prog_7_method_6_code 15 = .ok (.iload_n 1, 1) := by decide +kernel
theorem d_T_shorten_16 : decode prog_7_method_6_code 16 = .ok (.putfield 15, 3) := by decide +kernel
theorem d_T_shorten_19 : decode prog_7_method_6_code 19 = .ok (.iconst 1, 1) := by decide +kernel
theorem d_T_shorten_20 : decode prog_7_method_6_code 20 = .ok (.ireturn, 1) := by decide +kernel
theorem d_K_end_0 : decode prog_1_method_3_code 0 = .ok (.aload_n 0, 1) := by decide +kernel
theorem d_K_end_1 : decode prog_1_method_3_code 1 = .ok (.invokevirtual 56, 3) := by decide +kernel
theorem d_K_end_4 : decode prog_1_method_3_code 4 = .ok (.aload_n 0, 1) := by decide +kernel
theorem d_K_end_5 : decode prog_1_method_3_code 5 = .ok (.getfield 18, 3) := by decide +kernel
theorem d_K_end_8 : decode prog_1_method_3_code 8 = .ok (.iload_n 1, 1) := by decide +kernel
theorem d_K_end_9 : decode prog_1_method_3_code 9 = .ok (.invokevirtual 67, 3) := by decide +kernel
theorem d_K_end_12 : decode prog_1_method_3_code 12 = .ok (.ireturn, 1) := by decide +kernel
theorem d_P_lastsFor_0 : decode prog_5_method_4_code 0 = .ok (.aload_n 0, 1) := by decide +kernel
theorem d_P_lastsFor_1 : decode prog_5_method_4_code 1 = .ok (.getfield 13, 3) := by decide +kernel
theorem d_P_lastsFor_4 : decode prog_5_method_4_code 4 = .ok (.ifCond .ne 5, 3) := by decide +kernel
theorem d_P_lastsFor_7 : decode prog_5_method_4_code 7 = .ok (.iconst 1, 1) := by decide +kernel
theorem d_P_lastsFor_8 : decode prog_5_method_4_code 8 = .ok (.ireturn, 1) := by decide +kernel
theorem d_K_spendWrites_0 : decode prog_1_method_22_code 0 = .ok (.aload_n 0, 1) := by decide +kernel
theorem d_K_spendWrites_1 : decode prog_1_method_22_code 1 = .ok (.getfield 45, 3) := by decide +kernel
theorem d_K_spendWrites_4 : decode prog_1_method_22_code 4 = .ok (.iload_n 1, 1) := by decide +kernel
theorem d_K_spendWrites_5 : decode prog_1_method_22_code 5 = .ok (.invokevirtual 190, 3) := by decide +kernel
theorem d_K_spendWrites_8 : decode prog_1_method_22_code 8 = .ok (.ifCond .ne 20, 3) := by decide +kernel
theorem d_K_spendWrites_28 : decode prog_1_method_22_code 28 = .ok (.return_, 1) := by decide +kernel
theorem d_D_init_0 : decode prog_2_method_1_code 0 = .ok (.aload_n 0, 1) := by decide +kernel
theorem d_D_init_1 : decode prog_2_method_1_code 1 = .ok (.invokespecial 3, 3) := by decide +kernel
theorem d_D_init_4 : decode prog_2_method_1_code 4 = .ok (.aload_n 0, 1) := by decide +kernel
theorem d_D_init_5 : decode prog_2_method_1_code 5 = .ok (.bipush 64, 2) := by decide +kernel
theorem d_D_init_7 : decode prog_2_method_1_code 7 = .ok (.anewarray 9, 3) := by decide +kernel
theorem d_D_init_10 : decode prog_2_method_1_code 10 = .ok (.putfield 11, 3) := by decide +kernel
theorem d_D_init_13 : decode prog_2_method_1_code 13 = .ok (.aload_n 0, 1) := by decide +kernel
theorem d_D_init_14 : decode prog_2_method_1_code 14 = .ok (.iconst 0, 1) := by decide +kernel
theorem d_D_init_15 : decode prog_2_method_1_code 15 = .ok (.putfield 17, 3) := by decide +kernel
theorem d_D_init_18 : decode prog_2_method_1_code 18 = .ok (.aload_n 0, 1) := by decide +kernel
theorem d_D_init_19 : decode prog_2_method_1_code 19 = .ok (.iconst 0, 1) := by decide +kernel
theorem d_D_init_20 : decode prog_2_method_1_code 20 = .ok (.putfield 21, 3) := by decide +kernel
theorem d_D_init_23 : decode prog_2_method_1_code 23 = .ok (.return_, 1) := by decide +kernel
theorem d_K_make_0 : decode prog_1_method_4_code 0 = .ok (.aload_n 0, 1) := by decide +kernel
theorem d_K_make_1 : decode prog_1_method_4_code 1 = .ok (.invokevirtual 56, 3) := by decide +kernel
theorem d_K_make_4 : decode prog_1_method_4_code 4 = .ok (.aload_n 0, 1) := by decide +kernel
theorem d_K_make_5 : decode prog_1_method_4_code 5 = .ok (.getfield 49, 3) := by decide +kernel
theorem d_K_make_8 : decode prog_1_method_4_code 8 = .ok (.bipush 8, 2) := by decide +kernel
theorem d_K_make_10 : decode prog_1_method_4_code 10 = .ok (.if_icmp .lt 5, 3) := by decide +kernel
theorem d_K_make_15 : decode prog_1_method_4_code 15 = .ok (.aload_n 0, 1) := by decide +kernel
theorem d_K_make_16 : decode prog_1_method_4_code 16 = .ok (.iconst 1, 1) := by decide +kernel
theorem d_K_make_17 : decode prog_1_method_4_code 17 = .ok (.invokevirtual 70, 3) := by decide +kernel
theorem d_K_make_20 : decode prog_1_method_4_code 20 = .ok (.aload_n 0, 1) := by decide +kernel
theorem d_K_make_21 : decode prog_1_method_4_code 21 = .ok (.getfield 49, 3) := by decide +kernel
theorem d_K_make_24 : decode prog_1_method_4_code 24 = .ok (.istore_n 1, 1) := by decide +kernel
theorem d_K_make_25 : decode prog_1_method_4_code 25 = .ok (.aload_n 0, 1) := by decide +kernel
theorem d_K_make_26 : decode prog_1_method_4_code 26 = .ok (.getfield 11, 3) := by decide +kernel
theorem d_K_make_29 : decode prog_1_method_4_code 29 = .ok (.iload_n 1, 1) := by decide +kernel
theorem d_K_make_30 : decode prog_1_method_4_code 30 = .ok (.new 9, 3) := by decide +kernel
theorem d_K_make_33 : decode prog_1_method_4_code 33 = .ok (.dup, 1) := by decide +kernel
theorem d_K_make_34 : decode prog_1_method_4_code 34 = .ok (.invokespecial 73, 3) := by decide +kernel
theorem d_K_make_37 : decode prog_1_method_4_code 37 = .ok (.aastore, 1) := by decide +kernel
theorem d_K_make_38 : decode prog_1_method_4_code 38 = .ok (.aload_n 0, 1) := by decide +kernel
theorem d_K_make_39 : decode prog_1_method_4_code 39 = .ok (.dup, 1) := by decide +kernel
theorem d_K_make_40 : decode prog_1_method_4_code 40 = .ok (.getfield 49, 3) := by decide +kernel
theorem d_K_make_43 : decode prog_1_method_4_code 43 = .ok (.iconst 1, 1) := by decide +kernel
theorem d_K_make_44 : decode prog_1_method_4_code 44 = .ok (.iadd, 1) := by decide +kernel
theorem d_K_make_45 : decode prog_1_method_4_code 45 = .ok (.putfield 49, 3) := by decide +kernel
theorem d_K_make_48 : decode prog_1_method_4_code 48 = .ok (.iload_n 1, 1) := by decide +kernel
theorem d_K_make_49 : decode prog_1_method_4_code 49 = .ok (.ireturn, 1) := by decide +kernel
theorem d_P_goAfter_0 : decode prog_5_method_2_code 0 = .ok (.aload_n 0, 1) := by decide +kernel
theorem d_P_goAfter_1 : decode prog_5_method_2_code 1 = .ok (.iconst 1, 1) := by decide +kernel
theorem d_P_goAfter_2 : decode prog_5_method_2_code 2 = .ok (.putfield 13, 3) := by decide +kernel
theorem d_P_goAfter_5 : decode prog_5_method_2_code 5 = .ok (.aload_n 0, 1) := by decide +kernel
theorem d_P_goAfter_6 : decode prog_5_method_2_code 6 = .ok (.iload_n 1, 1) := by decide +kernel
theorem d_P_goAfter_7 : decode prog_5_method_2_code 7 = .ok (.putfield 16, 3) := by decide +kernel
theorem d_P_goAfter_10 : decode prog_5_method_2_code 10 = .ok (.return_, 1) := by decide +kernel
theorem d_K_cutAfter_0 : decode prog_1_method_18_code 0 = .ok (.aload_n 0, 1) := by decide +kernel
theorem d_K_cutAfter_1 : decode prog_1_method_18_code 1 = .ok (.invokevirtual 56, 3) := by decide +kernel
theorem d_K_cutAfter_4 : decode prog_1_method_18_code 4 = .ok (.iload_n 1, 1) := by decide +kernel
theorem d_K_cutAfter_5 : decode prog_1_method_18_code 5 = .ok (.ifCond .ge 5, 3) := by decide +kernel
theorem d_K_cutAfter_8 : decode prog_1_method_18_code 8 = .ok (.iconst 0, 1) := by decide +kernel
theorem d_K_cutAfter_9 : decode prog_1_method_18_code 9 = .ok (.ireturn, 1) := by decide +kernel
theorem d_K_cutAfter_10 : decode prog_1_method_18_code 10 = .ok (.aload_n 0, 1) := by decide +kernel
theorem d_K_cutAfter_11 : decode prog_1_method_18_code 11 = .ok (.getfield 45, 3) := by decide +kernel
theorem d_K_cutAfter_14 : decode prog_1_method_18_code 14 = .ok (.iload_n 1, 1) := by decide +kernel
theorem d_K_cutAfter_15 : decode prog_1_method_18_code 15 = .ok (.invokevirtual 177, 3) := by decide +kernel
theorem d_K_cutAfter_18 : decode prog_1_method_18_code 18 = .ok (.iconst 1, 1) := by decide +kernel
theorem d_K_cutAfter_19 : decode prog_1_method_18_code 19 = .ok (.ireturn, 1) := by decide +kernel
theorem d_O_runs_0 : decode prog_9_method_3_code 0 = .ok (.aload_n 0, 1) := by decide +kernel
theorem d_O_runs_1 : decode prog_9_method_3_code 1 = .ok (.aload_n 0, 1) := by decide +kernel
theorem d_O_runs_2 : decode prog_9_method_3_code 2 = .ok (.getfield 65, 3) := by decide +kernel
theorem d_O_runs_5 : decode prog_9_method_3_code 5 = .ok (.ifCond .eq 7, 3) := by decide +kernel
theorem d_O_runs_12 : decode prog_9_method_3_code 12 = .ok (.iconst 0, 1) := by decide +kernel
theorem d_O_runs_13 : decode prog_9_method_3_code 13 = .ok (.putfield 62, 3) := by decide +kernel
theorem d_O_runs_16 : decode prog_9_method_3_code 16 = .ok (.aload_n 0, 1) := by decide +kernel
theorem d_O_runs_17 : decode prog_9_method_3_code 17 = .ok (.getfield 65, 3) := by decide +kernel
theorem d_O_runs_20 : decode prog_9_method_3_code 20 = .ok (.ifCond .ne 7, 3) := by decide +kernel
theorem d_O_runs_23 : decode prog_9_method_3_code 23 = .ok (.iconst 1, 1) := by decide +kernel
theorem d_O_runs_24 : decode prog_9_method_3_code 24 = .ok (.goto 4, 3) := by decide +kernel
theorem d_O_runs_28 : decode prog_9_method_3_code 28 = .ok (.ireturn, 1) := by decide +kernel
theorem d_O_thrown_0 : decode prog_9_method_2_code 0 = .ok (.aload_n 0, 1) := by decide +kernel
theorem d_O_thrown_1 : decode prog_9_method_2_code 1 = .ok (.getfield 62, 3) := by decide +kernel
theorem d_O_thrown_4 : decode prog_9_method_2_code 4 = .ok (.ireturn, 1) := by decide +kernel
theorem d_O_isDocument_0 : decode prog_9_method_7_code 0 = .ok (.iload_n 1, 1) := by decide +kernel
theorem d_O_isDocument_1 : decode prog_9_method_7_code 1 = .ok (.ifCond .lt 24, 3) := by decide +kernel
theorem d_O_isDocument_4 : decode prog_9_method_7_code 4 = .ok (.iload_n 1, 1) := by decide +kernel
theorem d_O_isDocument_5 : decode prog_9_method_7_code 5 = .ok (.aload_n 0, 1) := by decide +kernel
theorem d_O_isDocument_6 : decode prog_9_method_7_code 6 = .ok (.getfield 76, 3) := by decide +kernel
theorem d_O_isDocument_9 : decode prog_9_method_7_code 9 = .ok (.if_icmp .ge 16, 3) := by decide +kernel
theorem d_O_isDocument_25 : decode prog_9_method_7_code 25 = .ok (.iconst 0, 1) := by decide +kernel
theorem d_O_isDocument_26 : decode prog_9_method_7_code 26 = .ok (.ireturn, 1) := by decide +kernel
theorem d_O_isAsked_0 : decode prog_9_method_8_code 0 = .ok (.aload_n 0, 1) := by decide +kernel
theorem d_O_isAsked_1 : decode prog_9_method_8_code 1 = .ok (.iload_n 1, 1) := by decide +kernel
theorem d_O_isAsked_2 : decode prog_9_method_8_code 2 = .ok (.invokevirtual 79, 3) := by decide +kernel
theorem d_O_isAsked_5 : decode prog_9_method_8_code 5 = .ok (.ifCond .eq 27, 3) := by decide +kernel
theorem d_O_isAsked_32 : decode prog_9_method_8_code 32 = .ok (.iconst 0, 1) := by decide +kernel
theorem d_O_isAsked_33 : decode prog_9_method_8_code 33 = .ok (.ireturn, 1) := by decide +kernel
theorem d_O_kept_0 : decode prog_9_method_9_code 0 = .ok (.aload_n 0, 1) := by decide +kernel
theorem d_O_kept_1 : decode prog_9_method_9_code 1 = .ok (.iload_n 1, 1) := by decide +kernel
theorem d_O_kept_2 : decode prog_9_method_9_code 2 = .ok (.invokevirtual 79, 3) := by decide +kernel
theorem d_O_kept_5 : decode prog_9_method_9_code 5 = .ok (.ifCond .eq 37, 3) := by decide +kernel
theorem d_O_kept_42 : decode prog_9_method_9_code 42 = .ok (.iconst (-1), 1) := by decide +kernel
theorem d_O_kept_43 : decode prog_9_method_9_code 43 = .ok (.ireturn, 1) := by decide +kernel
theorem d_O_writes_0 : decode prog_9_method_4_code 0 = .ok (.aload_n 0, 1) := by decide +kernel
theorem d_O_writes_1 : decode prog_9_method_4_code 1 = .ok (.getfield 9, 3) := by decide +kernel
theorem d_O_writes_4 : decode prog_9_method_4_code 4 = .ok (.iconst (-1), 1) := by decide +kernel
theorem d_O_writes_5 : decode prog_9_method_4_code 5 = .ok (.if_icmp .eq 11, 3) := by decide +kernel
theorem d_O_writes_16 : decode prog_9_method_4_code 16 = .ok (.aload_n 0, 1) := by decide +kernel
theorem d_O_writes_17 : decode prog_9_method_4_code 17 = .ok (.aload_n 0, 1) := by decide +kernel
theorem d_O_writes_18 : decode prog_9_method_4_code 18 = .ok (.getfield 9, 3) := by decide +kernel
theorem d_O_writes_21 : decode prog_9_method_4_code 21 = .ok (.iconst (-1), 1) := by decide +kernel
theorem d_O_writes_22 : decode prog_9_method_4_code 22 = .ok (.if_icmp .ne 7, 3) := by decide +kernel
theorem d_O_writes_25 : decode prog_9_method_4_code 25 = .ok (.iconst (-1), 1) := by decide +kernel
theorem d_O_writes_26 : decode prog_9_method_4_code 26 = .ok (.goto 9, 3) := by decide +kernel
theorem d_O_writes_35 : decode prog_9_method_4_code 35 = .ok (.putfield 9, 3) := by decide +kernel
theorem d_O_writes_38 : decode prog_9_method_4_code 38 = .ok (.iconst 1, 1) := by decide +kernel
theorem d_O_writes_39 : decode prog_9_method_4_code 39 = .ok (.ireturn, 1) := by decide +kernel
theorem d_O_make_0 : decode prog_9_method_16_code 0 = .ok (.aload_n 0, 1) := by decide +kernel
theorem d_O_make_1 : decode prog_9_method_16_code 1 = .ok (.iconst 1, 1) := by decide +kernel
theorem d_O_make_2 : decode prog_9_method_16_code 2 = .ok (.invokevirtual 72, 3) := by decide +kernel
theorem d_O_make_5 : decode prog_9_method_16_code 5 = .ok (.ifCond .eq 12, 3) := by decide +kernel
theorem d_O_make_8 : decode prog_9_method_16_code 8 = .ok (.aload_n 0, 1) := by decide +kernel
theorem d_O_make_9 : decode prog_9_method_16_code 9 = .ok (.getfield 76, 3) := by decide +kernel
theorem d_O_make_12 : decode prog_9_method_16_code 12 = .ok (.bipush 8, 2) := by decide +kernel
theorem d_O_make_14 : decode prog_9_method_16_code 14 = .ok (.if_icmp .ne 16, 3) := by decide +kernel
theorem d_O_make_30 : decode prog_9_method_16_code 30 = .ok (.aload_n 0, 1) := by decide +kernel
theorem d_O_make_31 : decode prog_9_method_16_code 31 = .ok (.iconst 1, 1) := by decide +kernel
theorem d_O_make_32 : decode prog_9_method_16_code 32 = .ok (.invokevirtual 97, 3) := by decide +kernel
theorem d_O_make_35 : decode prog_9_method_16_code 35 = .ok (.ifCond .ne 5, 3) := by decide +kernel
theorem d_O_make_40 : decode prog_9_method_16_code 40 = .ok (.aload_n 0, 1) := by decide +kernel
theorem d_O_make_41 : decode prog_9_method_16_code 41 = .ok (.dup, 1) := by decide +kernel
theorem d_O_make_42 : decode prog_9_method_16_code 42 = .ok (.getfield 76, 3) := by decide +kernel
theorem d_O_make_45 : decode prog_9_method_16_code 45 = .ok (.iconst 1, 1) := by decide +kernel
theorem d_O_make_46 : decode prog_9_method_16_code 46 = .ok (.iadd, 1) := by decide +kernel
theorem d_O_make_47 : decode prog_9_method_16_code 47 = .ok (.putfield 76, 3) := by decide +kernel
theorem d_O_make_50 : decode prog_9_method_16_code 50 = .ok (.aload_n 0, 1) := by decide +kernel
theorem d_O_make_51 : decode prog_9_method_16_code 51 = .ok (.getfield 76, 3) := by decide +kernel
theorem d_O_make_54 : decode prog_9_method_16_code 54 = .ok (.iconst 1, 1) := by decide +kernel
theorem d_O_make_55 : decode prog_9_method_16_code 55 = .ok (.isub, 1) := by decide +kernel
theorem d_O_make_56 : decode prog_9_method_16_code 56 = .ok (.ireturn, 1) := by decide +kernel
theorem d_O_commit_0 : decode prog_9_method_27_code 0 = .ok (.aload_n 0, 1) := by decide +kernel
theorem d_O_commit_1 : decode prog_9_method_27_code 1 = .ok (.iconst 1, 1) := by decide +kernel
theorem d_O_commit_2 : decode prog_9_method_27_code 2 = .ok (.invokevirtual 72, 3) := by decide +kernel
theorem d_O_commit_5 : decode prog_9_method_27_code 5 = .ok (.ifCond .eq 22, 3) := by decide +kernel
theorem d_O_commit_8 : decode prog_9_method_27_code 8 = .ok (.aload_n 0, 1) := by decide +kernel
theorem d_O_commit_9 : decode prog_9_method_27_code 9 = .ok (.iload_n 1, 1) := by decide +kernel
theorem d_O_commit_10 : decode prog_9_method_27_code 10 = .ok (.invokevirtual 79, 3) := by decide +kernel
theorem d_O_commit_13 : decode prog_9_method_27_code 13 = .ok (.ifCond .eq 14, 3) := by decide +kernel
theorem d_O_commit_27 : decode prog_9_method_27_code 27 = .ok (.aload_n 0, 1) := by decide +kernel
theorem d_O_commit_28 : decode prog_9_method_27_code 28 = .ok (.getfield 62, 3) := by decide +kernel
theorem d_O_commit_31 : decode prog_9_method_27_code 31 = .ok (.ifCond .ne 7, 3) := by decide +kernel
theorem d_O_commit_34 : decode prog_9_method_27_code 34 = .ok (.iconst (-1), 1) := by decide +kernel
theorem d_O_commit_35 : decode prog_9_method_27_code 35 = .ok (.goto 4, 3) := by decide +kernel
theorem d_O_commit_39 : decode prog_9_method_27_code 39 = .ok (.ireturn, 1) := by decide +kernel
theorem d_O_fetch_0 : decode prog_9_method_28_code 0 = .ok (.aload_n 0, 1) := by decide +kernel
theorem d_O_fetch_1 : decode prog_9_method_28_code 1 = .ok (.iconst 1, 1) := by decide +kernel
theorem d_O_fetch_2 : decode prog_9_method_28_code 2 = .ok (.invokevirtual 72, 3) := by decide +kernel
theorem d_O_fetch_5 : decode prog_9_method_28_code 5 = .ok (.ifCond .eq 12, 3) := by decide +kernel
theorem d_O_fetch_8 : decode prog_9_method_28_code 8 = .ok (.aload_n 0, 1) := by decide +kernel
theorem d_O_fetch_9 : decode prog_9_method_28_code 9 = .ok (.iload_n 1, 1) := by decide +kernel
theorem d_O_fetch_10 : decode prog_9_method_28_code 10 = .ok (.iload_n 2, 1) := by decide +kernel
theorem d_O_fetch_11 : decode prog_9_method_28_code 11 = .ok (.invokevirtual 156, 3) := by decide +kernel
theorem d_O_fetch_14 : decode prog_9_method_28_code 14 = .ok (.ifCond .ne 16, 3) := by decide +kernel
theorem d_O_fetch_17 : decode prog_9_method_28_code 17 = .ok (.aload_n 0, 1) := by decide +kernel
theorem d_O_fetch_18 : decode prog_9_method_28_code 18 = .ok (.getfield 62, 3) := by decide +kernel
theorem d_O_fetch_21 : decode prog_9_method_28_code 21 = .ok (.ifCond .ne 7, 3) := by decide +kernel
theorem d_O_fetch_24 : decode prog_9_method_28_code 24 = .ok (.iconst (-1), 1) := by decide +kernel
theorem d_O_fetch_25 : decode prog_9_method_28_code 25 = .ok (.goto 4, 3) := by decide +kernel
theorem d_O_fetch_29 : decode prog_9_method_28_code 29 = .ok (.ireturn, 1) := by decide +kernel
theorem d_O_trim_0 : decode prog_9_method_31_code 0 = .ok (.aload_n 0, 1) := by decide +kernel
theorem d_O_trim_1 : decode prog_9_method_31_code 1 = .ok (.iconst 1, 1) := by decide +kernel
theorem d_O_trim_2 : decode prog_9_method_31_code 2 = .ok (.invokevirtual 72, 3) := by decide +kernel
theorem d_O_trim_5 : decode prog_9_method_31_code 5 = .ok (.ifCond .eq 20, 3) := by decide +kernel
theorem d_O_trim_8 : decode prog_9_method_31_code 8 = .ok (.aload_n 0, 1) := by decide +kernel
theorem d_O_trim_9 : decode prog_9_method_31_code 9 = .ok (.iload_n 1, 1) := by decide +kernel
theorem d_O_trim_10 : decode prog_9_method_31_code 10 = .ok (.iload_n 2, 1) := by decide +kernel
theorem d_O_trim_11 : decode prog_9_method_31_code 11 = .ok (.invokevirtual 156, 3) := by decide +kernel
theorem d_O_trim_14 : decode prog_9_method_31_code 14 = .ok (.ifCond .eq 11, 3) := by decide +kernel
theorem d_O_trim_25 : decode prog_9_method_31_code 25 = .ok (.iconst 0, 1) := by decide +kernel
theorem d_O_trim_26 : decode prog_9_method_31_code 26 = .ok (.ireturn, 1) := by decide +kernel
theorem d_O_dropDocument_0 : decode prog_9_method_32_code 0 = .ok (.aload_n 0, 1) := by decide +kernel
theorem d_O_dropDocument_1 : decode prog_9_method_32_code 1 = .ok (.iconst 1, 1) := by decide +kernel
theorem d_O_dropDocument_2 : decode prog_9_method_32_code 2 = .ok (.invokevirtual 72, 3) := by decide +kernel
theorem d_O_dropDocument_5 : decode prog_9_method_32_code 5 = .ok (.ifCond .eq 19, 3) := by decide +kernel
theorem d_O_dropDocument_8 : decode prog_9_method_32_code 8 = .ok (.aload_n 0, 1) := by decide +kernel
theorem d_O_dropDocument_9 : decode prog_9_method_32_code 9 = .ok (.iload_n 1, 1) := by decide +kernel
theorem d_O_dropDocument_10 : decode prog_9_method_32_code 10 = .ok (.invokevirtual 79, 3) := by decide +kernel
theorem d_O_dropDocument_13 : decode prog_9_method_32_code 13 = .ok (.ifCond .eq 11, 3) := by decide +kernel
theorem d_O_dropDocument_24 : decode prog_9_method_32_code 24 = .ok (.iconst 0, 1) := by decide +kernel
theorem d_O_dropDocument_25 : decode prog_9_method_32_code 25 = .ok (.ireturn, 1) := by decide +kernel
theorem d_O_pieceByte_0 : decode prog_9_method_35_code 0 = .ok (.aload_n 0, 1) := by decide +kernel
theorem d_O_pieceByte_1 : decode prog_9_method_35_code 1 = .ok (.iconst 1, 1) := by decide +kernel
theorem d_O_pieceByte_2 : decode prog_9_method_35_code 2 = .ok (.invokevirtual 72, 3) := by decide +kernel
theorem d_O_pieceByte_5 : decode prog_9_method_35_code 5 = .ok (.ifCond .ne 5, 3) := by decide +kernel
theorem d_O_pieceByte_10 : decode prog_9_method_35_code 10 = .ok (.aload_n 0, 1) := by decide +kernel
theorem d_O_pieceByte_11 : decode prog_9_method_35_code 11 = .ok (.iload_n 1, 1) := by decide +kernel
theorem d_O_pieceByte_12 : decode prog_9_method_35_code 12 = .ok (.iload_n 2, 1) := by decide +kernel
theorem d_O_pieceByte_13 : decode prog_9_method_35_code 13 = .ok (.invokevirtual 162, 3) := by decide +kernel
theorem d_O_pieceByte_16 : decode prog_9_method_35_code 16 = .ok (.istore 4, 2) := by decide +kernel
theorem d_O_pieceByte_18 : decode prog_9_method_35_code 18 = .ok (.iload 4, 2) := by decide +kernel
theorem d_O_pieceByte_20 : decode prog_9_method_35_code 20 = .ok (.iconst (-1), 1) := by decide +kernel
theorem d_O_pieceByte_21 : decode prog_9_method_35_code 21 = .ok (.if_icmp .eq 38, 3) := by decide +kernel
theorem d_O_pieceByte_59 : decode prog_9_method_35_code 59 = .ok (.iconst (-1), 1) := by decide +kernel
theorem d_O_pieceByte_60 : decode prog_9_method_35_code 60 = .ok (.ireturn, 1) := by decide +kernel
theorem d_O_damage_0 : decode prog_9_method_36_code 0 = .ok (.aload_n 0, 1) := by decide +kernel
theorem d_O_damage_1 : decode prog_9_method_36_code 1 = .ok (.iconst 1, 1) := by decide +kernel
theorem d_O_damage_2 : decode prog_9_method_36_code 2 = .ok (.invokevirtual 72, 3) := by decide +kernel
theorem d_O_damage_5 : decode prog_9_method_36_code 5 = .ok (.ifCond .ne 5, 3) := by decide +kernel
theorem d_O_damage_10 : decode prog_9_method_36_code 10 = .ok (.aload_n 0, 1) := by decide +kernel
theorem d_O_damage_11 : decode prog_9_method_36_code 11 = .ok (.iload_n 1, 1) := by decide +kernel
theorem d_O_damage_12 : decode prog_9_method_36_code 12 = .ok (.iload_n 2, 1) := by decide +kernel
theorem d_O_damage_13 : decode prog_9_method_36_code 13 = .ok (.invokevirtual 162, 3) := by decide +kernel
theorem d_O_damage_16 : decode prog_9_method_36_code 16 = .ok (.istore 5, 2) := by decide +kernel
theorem d_O_damage_18 : decode prog_9_method_36_code 18 = .ok (.iload 5, 2) := by decide +kernel
theorem d_O_damage_20 : decode prog_9_method_36_code 20 = .ok (.iconst (-1), 1) := by decide +kernel
theorem d_O_damage_21 : decode prog_9_method_36_code 21 = .ok (.if_icmp .eq 18, 3) := by decide +kernel
theorem d_O_damage_39 : decode prog_9_method_36_code 39 = .ok (.iconst 0, 1) := by decide +kernel
theorem d_O_damage_40 : decode prog_9_method_36_code 40 = .ok (.ireturn, 1) := by decide +kernel
theorem d_O_common_0 : decode prog_9_method_38_code 0 = .ok (.aload_n 0, 1) := by decide +kernel
theorem d_O_common_1 : decode prog_9_method_38_code 1 = .ok (.iconst 1, 1) := by decide +kernel
theorem d_O_common_2 : decode prog_9_method_38_code 2 = .ok (.invokevirtual 72, 3) := by decide +kernel
theorem d_O_common_5 : decode prog_9_method_38_code 5 = .ok (.ifCond .eq 32, 3) := by decide +kernel
theorem d_O_common_8 : decode prog_9_method_38_code 8 = .ok (.aload_n 0, 1) := by decide +kernel
theorem d_O_common_9 : decode prog_9_method_38_code 9 = .ok (.iload_n 1, 1) := by decide +kernel
theorem d_O_common_10 : decode prog_9_method_38_code 10 = .ok (.iload_n 2, 1) := by decide +kernel
theorem d_O_common_11 : decode prog_9_method_38_code 11 = .ok (.invokevirtual 156, 3) := by decide +kernel
theorem d_O_common_14 : decode prog_9_method_38_code 14 = .ok (.ifCond .eq 23, 3) := by decide +kernel
theorem d_O_common_37 : decode prog_9_method_38_code 37 = .ok (.aload_n 0, 1) := by decide +kernel
theorem d_O_common_38 : decode prog_9_method_38_code 38 = .ok (.getfield 62, 3) := by decide +kernel
theorem d_O_common_41 : decode prog_9_method_38_code 41 = .ok (.ifCond .ne 7, 3) := by decide +kernel
theorem d_O_common_44 : decode prog_9_method_38_code 44 = .ok (.iconst (-1), 1) := by decide +kernel
theorem d_O_common_45 : decode prog_9_method_38_code 45 = .ok (.goto 4, 3) := by decide +kernel
theorem d_O_common_49 : decode prog_9_method_38_code 49 = .ok (.ireturn, 1) := by decide +kernel
theorem d_O_about_0 : decode prog_9_method_33_code 0 = .ok (.aload_n 0, 1) := by decide +kernel
theorem d_O_about_1 : decode prog_9_method_33_code 1 = .ok (.iconst 3, 1) := by decide +kernel
theorem d_O_about_2 : decode prog_9_method_33_code 2 = .ok (.invokevirtual 72, 3) := by decide +kernel
theorem d_O_about_5 : decode prog_9_method_33_code 5 = .ok (.ifCond .ne 5, 3) := by decide +kernel
theorem d_O_about_10 : decode prog_9_method_33_code 10 = .ok (.aload_n 0, 1) := by decide +kernel
theorem d_O_about_11 : decode prog_9_method_33_code 11 = .ok (.aload_n 0, 1) := by decide +kernel
theorem d_O_about_12 : decode prog_9_method_33_code 12 = .ok (.iload_n 1, 1) := by decide +kernel
theorem d_O_about_13 : decode prog_9_method_33_code 13 = .ok (.invokevirtual 79, 3) := by decide +kernel
theorem d_O_about_16 : decode prog_9_method_33_code 16 = .ok (.ifCond .ne 7, 3) := by decide +kernel
theorem d_O_about_19 : decode prog_9_method_33_code 19 = .ok (.iconst 1, 1) := by decide +kernel
theorem d_O_about_20 : decode prog_9_method_33_code 20 = .ok (.goto 17, 3) := by decide +kernel
theorem d_O_about_37 : decode prog_9_method_33_code 37 = .ok (.putfield 62, 3) := by decide +kernel
theorem d_O_about_40 : decode prog_9_method_33_code 40 = .ok (.aload_n 0, 1) := by decide +kernel
theorem d_O_about_41 : decode prog_9_method_33_code 41 = .ok (.getfield 62, 3) := by decide +kernel
theorem d_O_about_44 : decode prog_9_method_33_code 44 = .ok (.ifCond .eq 7, 3) := by decide +kernel
theorem d_O_about_47 : decode prog_9_method_33_code 47 = .ok (.iconst 0, 1) := by decide +kernel
theorem d_O_about_48 : decode prog_9_method_33_code 48 = .ok (.goto 37, 3) := by decide +kernel
theorem d_O_about_85 : decode prog_9_method_33_code 85 = .ok (.ireturn, 1) := by decide +kernel
theorem d_O_revision_0 : decode prog_9_method_34_code 0 = .ok (.aload_n 0, 1) := by decide +kernel
theorem d_O_revision_1 : decode prog_9_method_34_code 1 = .ok (.iconst 3, 1) := by decide +kernel
theorem d_O_revision_2 : decode prog_9_method_34_code 2 = .ok (.invokevirtual 72, 3) := by decide +kernel
theorem d_O_revision_5 : decode prog_9_method_34_code 5 = .ok (.ifCond .ne 5, 3) := by decide +kernel
theorem d_O_revision_10 : decode prog_9_method_34_code 10 = .ok (.aload_n 0, 1) := by decide +kernel
theorem d_O_revision_11 : decode prog_9_method_34_code 11 = .ok (.iload_n 1, 1) := by decide +kernel
theorem d_O_revision_12 : decode prog_9_method_34_code 12 = .ok (.iload_n 2, 1) := by decide +kernel
theorem d_O_revision_13 : decode prog_9_method_34_code 13 = .ok (.invokevirtual 162, 3) := by decide +kernel
theorem d_O_revision_16 : decode prog_9_method_34_code 16 = .ok (.istore 4, 2) := by decide +kernel
theorem d_O_revision_18 : decode prog_9_method_34_code 18 = .ok (.aload_n 0, 1) := by decide +kernel
theorem d_O_revision_19 : decode prog_9_method_34_code 19 = .ok (.iload 4, 2) := by decide +kernel
theorem d_O_revision_21 : decode prog_9_method_34_code 21 = .ok (.iconst (-1), 1) := by decide +kernel
theorem d_O_revision_22 : decode prog_9_method_34_code 22 = .ok (.if_icmp .eq 17, 3) := by decide +kernel
theorem d_O_revision_39 : decode prog_9_method_34_code 39 = .ok (.iconst 1, 1) := by decide +kernel
theorem d_O_revision_40 : decode prog_9_method_34_code 40 = .ok (.goto 17, 3) := by decide +kernel
theorem d_O_revision_57 : decode prog_9_method_34_code 57 = .ok (.putfield 62, 3) := by decide +kernel
theorem d_O_revision_60 : decode prog_9_method_34_code 60 = .ok (.aload_n 0, 1) := by decide +kernel
theorem d_O_revision_61 : decode prog_9_method_34_code 61 = .ok (.getfield 62, 3) := by decide +kernel
theorem d_O_revision_64 : decode prog_9_method_34_code 64 = .ok (.ifCond .eq 7, 3) := by decide +kernel
theorem d_O_revision_67 : decode prog_9_method_34_code 67 = .ok (.iconst 0, 1) := by decide +kernel
theorem d_O_revision_68 : decode prog_9_method_34_code 68 = .ok (.goto 39, 3) := by decide +kernel
theorem d_O_revision_107 : decode prog_9_method_34_code 107 = .ok (.ireturn, 1) := by decide +kernel
theorem d_O_out_0 : decode prog_9_method_29_code 0 = .ok (.aload_n 0, 1) := by decide +kernel
theorem d_O_out_1 : decode prog_9_method_29_code 1 = .ok (.iconst 1, 1) := by decide +kernel
theorem d_O_out_2 : decode prog_9_method_29_code 2 = .ok (.invokevirtual 72, 3) := by decide +kernel
theorem d_O_out_5 : decode prog_9_method_29_code 5 = .ok (.ifCond .ne 5, 3) := by decide +kernel
theorem d_O_out_10 : decode prog_9_method_29_code 10 = .ok (.iload_n 1, 1) := by decide +kernel
theorem d_O_out_11 : decode prog_9_method_29_code 11 = .ok (.ifCond .lt 24, 3) := by decide +kernel
theorem d_O_out_14 : decode prog_9_method_29_code 14 = .ok (.iload_n 1, 1) := by decide +kernel
theorem d_O_out_15 : decode prog_9_method_29_code 15 = .ok (.aload_n 0, 1) := by decide +kernel
theorem d_O_out_16 : decode prog_9_method_29_code 16 = .ok (.getfield 50, 3) := by decide +kernel
theorem d_O_out_19 : decode prog_9_method_29_code 19 = .ok (.if_icmp .ge 16, 3) := by decide +kernel
theorem d_O_out_35 : decode prog_9_method_29_code 35 = .ok (.iconst (-1), 1) := by decide +kernel
theorem d_O_out_36 : decode prog_9_method_29_code 36 = .ok (.ireturn, 1) := by decide +kernel
theorem d_O_steps_0 : decode prog_9_method_30_code 0 = .ok (.aload_n 0, 1) := by decide +kernel
theorem d_O_steps_1 : decode prog_9_method_30_code 1 = .ok (.iconst 1, 1) := by decide +kernel
theorem d_O_steps_2 : decode prog_9_method_30_code 2 = .ok (.invokevirtual 72, 3) := by decide +kernel
theorem d_O_steps_5 : decode prog_9_method_30_code 5 = .ok (.ifCond .eq 10, 3) := by decide +kernel
theorem d_O_steps_8 : decode prog_9_method_30_code 8 = .ok (.aload_n 0, 1) := by decide +kernel
theorem d_O_steps_9 : decode prog_9_method_30_code 9 = .ok (.getfield 53, 3) := by decide +kernel
theorem d_O_steps_12 : decode prog_9_method_30_code 12 = .ok (.goto 4, 3) := by decide +kernel
theorem d_O_steps_16 : decode prog_9_method_30_code 16 = .ok (.ireturn, 1) := by decide +kernel
theorem d_O_start_0 : decode prog_9_method_41_code 0 = .ok (.aload_n 0, 1) := by decide +kernel
theorem d_O_start_1 : decode prog_9_method_41_code 1 = .ok (.iconst 0, 1) := by decide +kernel
theorem d_O_start_2 : decode prog_9_method_41_code 2 = .ok (.putfield 62, 3) := by decide +kernel
theorem d_O_start_5 : decode prog_9_method_41_code 5 = .ok (.aload_n 0, 1) := by decide +kernel
theorem d_O_start_6 : decode prog_9_method_41_code 6 = .ok (.getfield 65, 3) := by decide +kernel
theorem d_O_start_9 : decode prog_9_method_41_code 9 = .ok (.istore_n 1, 1) := by decide +kernel
theorem d_O_start_10 : decode prog_9_method_41_code 10 = .ok (.aload_n 0, 1) := by decide +kernel
theorem d_O_start_11 : decode prog_9_method_41_code 11 = .ok (.iconst 0, 1) := by decide +kernel
theorem d_O_start_12 : decode prog_9_method_41_code 12 = .ok (.putfield 65, 3) := by decide +kernel
theorem d_O_start_15 : decode prog_9_method_41_code 15 = .ok (.aload_n 0, 1) := by decide +kernel
theorem d_O_start_16 : decode prog_9_method_41_code 16 = .ok (.iload_n 1, 1) := by decide +kernel
theorem d_O_start_17 : decode prog_9_method_41_code 17 = .ok (.ifCond .eq 7, 3) := by decide +kernel
theorem d_O_start_24 : decode prog_9_method_41_code 24 = .ok (.aload_n 0, 1) := by decide +kernel
theorem d_O_start_25 : decode prog_9_method_41_code 25 = .ok (.getfield 9, 3) := by decide +kernel
theorem d_O_start_28 : decode prog_9_method_41_code 28 = .ok (.putfield 9, 3) := by decide +kernel
theorem d_O_start_31 : decode prog_9_method_41_code 31 = .ok (.iload_n 1, 1) := by decide +kernel
theorem d_O_start_32 : decode prog_9_method_41_code 32 = .ok (.ireturn, 1) := by decide +kernel
theorem d_O_isDown_0 : decode prog_9_method_42_code 0 = .ok (.aload_n 0, 1) := by decide +kernel
theorem d_O_isDown_1 : decode prog_9_method_42_code 1 = .ok (.iconst 0, 1) := by decide +kernel
theorem d_O_isDown_2 : decode prog_9_method_42_code 2 = .ok (.putfield 62, 3) := by decide +kernel
theorem d_O_isDown_5 : decode prog_9_method_42_code 5 = .ok (.aload_n 0, 1) := by decide +kernel
theorem d_O_isDown_6 : decode prog_9_method_42_code 6 = .ok (.getfield 65, 3) := by decide +kernel
theorem d_O_isDown_9 : decode prog_9_method_42_code 9 = .ok (.ireturn, 1) := by decide +kernel
theorem d_O_end_0 : decode prog_9_method_6_code 0 = .ok (.aload_n 0, 1) := by decide +kernel
theorem d_O_end_1 : decode prog_9_method_6_code 1 = .ok (.iconst 1, 1) := by decide +kernel
theorem d_O_end_2 : decode prog_9_method_6_code 2 = .ok (.invokevirtual 72, 3) := by decide +kernel
theorem d_O_end_5 : decode prog_9_method_6_code 5 = .ok (.ifCond .eq 15, 3) := by decide +kernel
theorem d_O_end_8 : decode prog_9_method_6_code 8 = .ok (.iload_n 1, 1) := by decide +kernel
theorem d_O_end_9 : decode prog_9_method_6_code 9 = .ok (.ifCond .lt 11, 3) := by decide +kernel
theorem d_O_end_12 : decode prog_9_method_6_code 12 = .ok (.iload_n 1, 1) := by decide +kernel
theorem d_O_end_13 : decode prog_9_method_6_code 13 = .ok (.aload_n 0, 1) := by decide +kernel
theorem d_O_end_14 : decode prog_9_method_6_code 14 = .ok (.getfield 69, 3) := by decide +kernel
theorem d_O_end_17 : decode prog_9_method_6_code 17 = .ok (.if_icmp .le 5, 3) := by decide +kernel
theorem d_O_end_20 : decode prog_9_method_6_code 20 = .ok (.iconst 0, 1) := by decide +kernel
theorem d_O_end_21 : decode prog_9_method_6_code 21 = .ok (.ireturn, 1) := by decide +kernel
theorem d_O_end_22 : decode prog_9_method_6_code 22 = .ok (.aload_n 0, 1) := by decide +kernel
theorem d_O_end_23 : decode prog_9_method_6_code 23 = .ok (.iload_n 1, 1) := by decide +kernel
theorem d_O_end_24 : decode prog_9_method_6_code 24 = .ok (.putfield 69, 3) := by decide +kernel
theorem d_O_end_27 : decode prog_9_method_6_code 27 = .ok (.iconst 1, 1) := by decide +kernel
theorem d_O_end_28 : decode prog_9_method_6_code 28 = .ok (.ireturn, 1) := by decide +kernel
theorem d_O_cutAfter_0 : decode prog_9_method_40_code 0 = .ok (.aload_n 0, 1) := by decide +kernel
theorem d_O_cutAfter_1 : decode prog_9_method_40_code 1 = .ok (.iconst 1, 1) := by decide +kernel
theorem d_O_cutAfter_2 : decode prog_9_method_40_code 2 = .ok (.invokevirtual 72, 3) := by decide +kernel
theorem d_O_cutAfter_5 : decode prog_9_method_40_code 5 = .ok (.ifCond .eq 7, 3) := by decide +kernel
theorem d_O_cutAfter_8 : decode prog_9_method_40_code 8 = .ok (.iload_n 1, 1) := by decide +kernel
theorem d_O_cutAfter_9 : decode prog_9_method_40_code 9 = .ok (.ifCond .ge 5, 3) := by decide +kernel
theorem d_O_cutAfter_12 : decode prog_9_method_40_code 12 = .ok (.iconst 0, 1) := by decide +kernel
theorem d_O_cutAfter_13 : decode prog_9_method_40_code 13 = .ok (.ireturn, 1) := by decide +kernel
theorem d_O_cutAfter_14 : decode prog_9_method_40_code 14 = .ok (.aload_n 0, 1) := by decide +kernel
theorem d_O_cutAfter_15 : decode prog_9_method_40_code 15 = .ok (.iload_n 1, 1) := by decide +kernel
theorem d_O_cutAfter_16 : decode prog_9_method_40_code 16 = .ok (.putfield 9, 3) := by decide +kernel
theorem d_O_cutAfter_19 : decode prog_9_method_40_code 19 = .ok (.iconst 1, 1) := by decide +kernel
theorem d_O_cutAfter_20 : decode prog_9_method_40_code 20 = .ok (.ireturn, 1) := by decide +kernel
theorem d_O_init_0 : decode prog_9_method_1_code 0 = .ok (.aload_n 0, 1) := by decide +kernel
theorem d_O_init_1 : decode prog_9_method_1_code 1 = .ok (.invokespecial 1, 3) := by decide +kernel
theorem d_O_init_4 : decode prog_9_method_1_code 4 = .ok (.aload_n 0, 1) := by decide +kernel
theorem d_O_init_5 : decode prog_9_method_1_code 5 = .ok (.iconst (-1), 1) := by decide +kernel
theorem d_O_init_6 : decode prog_9_method_1_code 6 = .ok (.putfield 9, 3) := by decide +kernel
theorem d_O_init_9 : decode prog_9_method_1_code 9 = .ok (.aload_n 0, 1) := by decide +kernel
theorem d_O_init_10 : decode prog_9_method_1_code 10 = .ok (.sipush 256, 3) := by decide +kernel
theorem d_O_init_13 : decode prog_9_method_1_code 13 = .ok (.newarray .byte, 2) := by decide +kernel
theorem d_O_init_15 : decode prog_9_method_1_code 15 = .ok (.putfield 13, 3) := by decide +kernel
theorem d_O_init_18 : decode prog_9_method_1_code 18 = .ok (.aload_n 0, 1) := by decide +kernel
theorem d_O_init_19 : decode prog_9_method_1_code 19 = .ok (.bipush 8, 2) := by decide +kernel
theorem d_O_init_21 : decode prog_9_method_1_code 21 = .ok (.newarray .boolean, 2) := by decide +kernel
theorem d_O_init_23 : decode prog_9_method_1_code 23 = .ok (.putfield 17, 3) := by decide +kernel
theorem d_O_init_26 : decode prog_9_method_1_code 26 = .ok (.aload_n 0, 1) := by decide +kernel
theorem d_O_init_27 : decode prog_9_method_1_code 27 = .ok (.bipush 8, 2) := by decide +kernel
theorem d_O_init_29 : decode prog_9_method_1_code 29 = .ok (.newarray .int, 2) := by decide +kernel
theorem d_O_init_31 : decode prog_9_method_1_code 31 = .ok (.putfield 21, 3) := by decide +kernel
theorem d_O_init_34 : decode prog_9_method_1_code 34 = .ok (.aload_n 0, 1) := by decide +kernel
theorem d_O_init_35 : decode prog_9_method_1_code 35 = .ok (.bipush 8, 2) := by decide +kernel
theorem d_O_init_37 : decode prog_9_method_1_code 37 = .ok (.newarray .int, 2) := by decide +kernel
theorem d_O_init_39 : decode prog_9_method_1_code 39 = .ok (.putfield 25, 3) := by decide +kernel
theorem d_O_init_42 : decode prog_9_method_1_code 42 = .ok (.aload_n 0, 1) := by decide +kernel
theorem d_O_init_43 : decode prog_9_method_1_code 43 = .ok (.sipush 512, 3) := by decide +kernel
theorem d_O_init_46 : decode prog_9_method_1_code 46 = .ok (.newarray .short, 2) := by decide +kernel
theorem d_O_init_48 : decode prog_9_method_1_code 48 = .ok (.putfield 28, 3) := by decide +kernel
theorem d_O_init_51 : decode prog_9_method_1_code 51 = .ok (.aload_n 0, 1) := by decide +kernel
theorem d_O_init_52 : decode prog_9_method_1_code 52 = .ok (.sipush 512, 3) := by decide +kernel
theorem d_O_init_55 : decode prog_9_method_1_code 55 = .ok (.newarray .int, 2) := by decide +kernel
theorem d_O_init_57 : decode prog_9_method_1_code 57 = .ok (.putfield 32, 3) := by decide +kernel
theorem d_O_init_60 : decode prog_9_method_1_code 60 = .ok (.aload_n 0, 1) := by decide +kernel
theorem d_O_init_61 : decode prog_9_method_1_code 61 = .ok (.sipush 512, 3) := by decide +kernel
theorem d_O_init_64 : decode prog_9_method_1_code 64 = .ok (.newarray .int, 2) := by decide +kernel
theorem d_O_init_66 : decode prog_9_method_1_code 66 = .ok (.putfield 35, 3) := by decide +kernel
theorem d_O_init_69 : decode prog_9_method_1_code 69 = .ok (.aload_n 0, 1) := by decide +kernel
theorem d_O_init_70 : decode prog_9_method_1_code 70 = .ok (.sipush 16384, 3) := by decide +kernel
theorem d_O_init_73 : decode prog_9_method_1_code 73 = .ok (.newarray .byte, 2) := by decide +kernel
theorem d_O_init_75 : decode prog_9_method_1_code 75 = .ok (.putfield 38, 3) := by decide +kernel
theorem d_O_init_78 : decode prog_9_method_1_code 78 = .ok (.aload_n 0, 1) := by decide +kernel
theorem d_O_init_79 : decode prog_9_method_1_code 79 = .ok (.sipush 256, 3) := by decide +kernel
theorem d_O_init_82 : decode prog_9_method_1_code 82 = .ok (.newarray .byte, 2) := by decide +kernel
theorem d_O_init_84 : decode prog_9_method_1_code 84 = .ok (.putfield 41, 3) := by decide +kernel
theorem d_O_init_87 : decode prog_9_method_1_code 87 = .ok (.aload_n 0, 1) := by decide +kernel
theorem d_O_init_88 : decode prog_9_method_1_code 88 = .ok (.sipush 256, 3) := by decide +kernel
theorem d_O_init_91 : decode prog_9_method_1_code 91 = .ok (.newarray .byte, 2) := by decide +kernel
theorem d_O_init_93 : decode prog_9_method_1_code 93 = .ok (.putfield 44, 3) := by decide +kernel
theorem d_O_init_96 : decode prog_9_method_1_code 96 = .ok (.aload_n 0, 1) := by decide +kernel
theorem d_O_init_97 : decode prog_9_method_1_code 97 = .ok (.sipush 256, 3) := by decide +kernel
theorem d_O_init_100 : decode prog_9_method_1_code 100 = .ok (.newarray .byte, 2) := by decide +kernel
theorem d_O_init_102 : decode prog_9_method_1_code 102 = .ok (.putfield 47, 3) := by decide +kernel
theorem d_O_init_105 : decode prog_9_method_1_code 105 = .ok (.aload_n 0, 1) := by decide +kernel
theorem d_O_init_106 : decode prog_9_method_1_code 106 = .ok (.iconst (-1), 1) := by decide +kernel
theorem d_O_init_107 : decode prog_9_method_1_code 107 = .ok (.putfield 50, 3) := by decide +kernel
theorem d_O_init_110 : decode prog_9_method_1_code 110 = .ok (.aload_n 0, 1) := by decide +kernel
theorem d_O_init_111 : decode prog_9_method_1_code 111 = .ok (.iconst (-1), 1) := by decide +kernel
theorem d_O_init_112 : decode prog_9_method_1_code 112 = .ok (.putfield 53, 3) := by decide +kernel
theorem d_O_init_115 : decode prog_9_method_1_code 115 = .ok (.aload_n 0, 1) := by decide +kernel
theorem d_O_init_116 : decode prog_9_method_1_code 116 = .ok (.sipush 256, 3) := by decide +kernel
theorem d_O_init_119 : decode prog_9_method_1_code 119 = .ok (.newarray .byte, 2) := by decide +kernel
theorem d_O_init_121 : decode prog_9_method_1_code 121 = .ok (.putfield 56, 3) := by decide +kernel
theorem d_O_init_124 : decode prog_9_method_1_code 124 = .ok (.aload_n 0, 1) := by decide +kernel
theorem d_O_init_125 : decode prog_9_method_1_code 125 = .ok (.sipush 600, 3) := by decide +kernel
theorem d_O_init_128 : decode prog_9_method_1_code 128 = .ok (.newarray .byte, 2) := by decide +kernel
theorem d_O_init_130 : decode prog_9_method_1_code 130 = .ok (.putfield 59, 3) := by decide +kernel
theorem d_O_init_133 : decode prog_9_method_1_code 133 = .ok (.iconst 0, 1) := by decide +kernel
theorem d_O_init_134 : decode prog_9_method_1_code 134 = .ok (.istore_n 1, 1) := by decide +kernel
theorem d_O_init_135 : decode prog_9_method_1_code 135 = .ok (.iload_n 1, 1) := by decide +kernel
theorem d_O_init_136 : decode prog_9_method_1_code 136 = .ok (.sipush 512, 3) := by decide +kernel
theorem d_O_init_139 : decode prog_9_method_1_code 139 = .ok (.if_icmp .ge 16, 3) := by decide +kernel
theorem d_O_init_142 : decode prog_9_method_1_code 142 = .ok (.aload_n 0, 1) := by decide +kernel
theorem d_O_init_143 : decode prog_9_method_1_code 143 = .ok (.getfield 28, 3) := by decide +kernel
theorem d_O_init_146 : decode prog_9_method_1_code 146 = .ok (.iload_n 1, 1) := by decide +kernel
theorem d_O_init_147 : decode prog_9_method_1_code 147 = .ok (.iconst (-1), 1) := by decide +kernel
theorem d_O_init_148 : decode prog_9_method_1_code 148 = .ok (.sastore, 1) := by decide +kernel
theorem d_O_init_149 : decode prog_9_method_1_code 149 = .ok (.iinc 1 1, 3) := by decide +kernel
theorem d_O_init_152 : decode prog_9_method_1_code 152 = .ok (.goto (-17), 3) := by decide +kernel
theorem d_O_init_155 : decode prog_9_method_1_code 155 = .ok (.return_, 1) := by decide +kernel
theorem d_O_feed_0 : decode prog_9_method_5_code 0 = .ok (.aload_n 0, 1) := by decide +kernel
theorem d_O_feed_1 : decode prog_9_method_5_code 1 = .ok (.iconst 1, 1) := by decide +kernel
theorem d_O_feed_2 : decode prog_9_method_5_code 2 = .ok (.invokevirtual 72, 3) := by decide +kernel
theorem d_O_feed_5 : decode prog_9_method_5_code 5 = .ok (.ifCond .eq 16, 3) := by decide +kernel
theorem d_O_feed_8 : decode prog_9_method_5_code 8 = .ok (.aload_n 0, 1) := by decide +kernel
theorem d_O_feed_9 : decode prog_9_method_5_code 9 = .ok (.getfield 69, 3) := by decide +kernel
theorem d_O_feed_12 : decode prog_9_method_5_code 12 = .ok (.bipush 20, 2) := by decide +kernel
theorem d_O_feed_14 : decode prog_9_method_5_code 14 = .ok (.iadd, 1) := by decide +kernel
theorem d_O_feed_15 : decode prog_9_method_5_code 15 = .ok (.sipush 256, 3) := by decide +kernel
theorem d_O_feed_18 : decode prog_9_method_5_code 18 = .ok (.if_icmp .le 5, 3) := by decide +kernel
theorem d_O_feed_23 : decode prog_9_method_5_code 23 = .ok (.iconst 0, 1) := by decide +kernel
theorem d_O_feed_24 : decode prog_9_method_5_code 24 = .ok (.istore 6, 2) := by decide +kernel
theorem d_O_feed_26 : decode prog_9_method_5_code 26 = .ok (.iload 6, 2) := by decide +kernel
theorem d_O_feed_28 : decode prog_9_method_5_code 28 = .ok (.bipush 20, 2) := by decide +kernel
theorem d_O_feed_30 : decode prog_9_method_5_code 30 = .ok (.if_icmp .ge 90, 3) := by decide +kernel
theorem d_O_feed_33 : decode prog_9_method_5_code 33 = .ok (.iload 6, 2) := by decide +kernel
theorem d_O_feed_35 : decode prog_9_method_5_code 35 = .ok (.iconst 4, 1) := by decide +kernel
theorem d_O_feed_36 : decode prog_9_method_5_code 36 = .ok (.if_icmp .ge 7, 3) := by decide +kernel
theorem d_O_feed_39 : decode prog_9_method_5_code 39 = .ok (.iload_n 1, 1) := by decide +kernel
theorem d_O_feed_40 : decode prog_9_method_5_code 40 = .ok (.goto 39, 3) := by decide +kernel
theorem d_O_feed_43 : decode prog_9_method_5_code 43 = .ok (.iload 6, 2) := by decide +kernel
theorem d_O_feed_45 : decode prog_9_method_5_code 45 = .ok (.bipush 8, 2) := by decide +kernel
theorem d_O_feed_47 : decode prog_9_method_5_code 47 = .ok (.if_icmp .ge 7, 3) := by decide +kernel
theorem d_O_feed_50 : decode prog_9_method_5_code 50 = .ok (.iload_n 2, 1) := by decide +kernel
theorem d_O_feed_51 : decode prog_9_method_5_code 51 = .ok (.goto 28, 3) := by decide +kernel
theorem d_O_feed_54 : decode prog_9_method_5_code 54 = .ok (.iload 6, 2) := by decide +kernel
theorem d_O_feed_56 : decode prog_9_method_5_code 56 = .ok (.bipush 12, 2) := by decide +kernel
theorem d_O_feed_58 : decode prog_9_method_5_code 58 = .ok (.if_icmp .ge 7, 3) := by decide +kernel
theorem d_O_feed_61 : decode prog_9_method_5_code 61 = .ok (.iload_n 3, 1) := by decide +kernel
theorem d_O_feed_62 : decode prog_9_method_5_code 62 = .ok (.goto 17, 3) := by decide +kernel
theorem d_O_feed_65 : decode prog_9_method_5_code 65 = .ok (.iload 6, 2) := by decide +kernel
theorem d_O_feed_67 : decode prog_9_method_5_code 67 = .ok (.bipush 16, 2) := by decide +kernel
theorem d_O_feed_69 : decode prog_9_method_5_code 69 = .ok (.if_icmp .ge 8, 3) := by decide +kernel
theorem d_O_feed_72 : decode prog_9_method_5_code 72 = .ok (.iload 4, 2) := by decide +kernel
theorem d_O_feed_74 : decode prog_9_method_5_code 74 = .ok (.goto 5, 3) := by decide +kernel
theorem d_O_feed_77 : decode prog_9_method_5_code 77 = .ok (.iload 5, 2) := by decide +kernel
theorem d_O_feed_79 : decode prog_9_method_5_code 79 = .ok (.istore 7, 2) := by decide +kernel
theorem d_O_feed_81 : decode prog_9_method_5_code 81 = .ok (.aload_n 0, 1) := by decide +kernel
theorem d_O_feed_82 : decode prog_9_method_5_code 82 = .ok (.getfield 13, 3) := by decide +kernel
theorem d_O_feed_85 : decode prog_9_method_5_code 85 = .ok (.aload_n 0, 1) := by decide +kernel
theorem d_O_feed_86 : decode prog_9_method_5_code 86 = .ok (.getfield 69, 3) := by decide +kernel
theorem d_O_feed_89 : decode prog_9_method_5_code 89 = .ok (.iload 7, 2) := by decide +kernel
theorem d_O_feed_91 : decode prog_9_method_5_code 91 = .ok (.bipush 24, 2) := by decide +kernel
theorem d_O_feed_93 : decode prog_9_method_5_code 93 = .ok (.bipush 8, 2) := by decide +kernel
theorem d_O_feed_95 : decode prog_9_method_5_code 95 = .ok (.iload 6, 2) := by decide +kernel
theorem d_O_feed_97 : decode prog_9_method_5_code 97 = .ok (.iconst 4, 1) := by decide +kernel
theorem d_O_feed_98 : decode prog_9_method_5_code 98 = .ok (.irem, 1) := by decide +kernel
theorem d_O_feed_99 : decode prog_9_method_5_code 99 = .ok (.imul, 1) := by decide +kernel
theorem d_O_feed_100 : decode prog_9_method_5_code 100 = .ok (.isub, 1) := by decide +kernel
theorem d_O_feed_101 : decode prog_9_method_5_code 101 = .ok (.ishr, 1) := by decide +kernel
theorem d_O_feed_102 : decode prog_9_method_5_code 102 = .ok (.i2b, 1) := by decide +kernel
theorem d_O_feed_103 : decode prog_9_method_5_code 103 = .ok (.bastore, 1) := by decide +kernel
theorem d_O_feed_104 : decode prog_9_method_5_code 104 = .ok (.aload_n 0, 1) := by decide +kernel
theorem d_O_feed_105 : decode prog_9_method_5_code 105 = .ok (.dup, 1) := by decide +kernel
theorem d_O_feed_106 : decode prog_9_method_5_code 106 = .ok (.getfield 69, 3) := by decide +kernel
theorem d_O_feed_109 : decode prog_9_method_5_code 109 = .ok (.iconst 1, 1) := by decide +kernel
theorem d_O_feed_110 : decode prog_9_method_5_code 110 = .ok (.iadd, 1) := by decide +kernel
theorem d_O_feed_111 : decode prog_9_method_5_code 111 = .ok (.putfield 69, 3) := by decide +kernel
theorem d_O_feed_114 : decode prog_9_method_5_code 114 = .ok (.iinc 6 1, 3) := by decide +kernel
theorem d_O_feed_117 : decode prog_9_method_5_code 117 = .ok (.goto (-91), 3) := by decide +kernel
theorem d_O_feed_120 : decode prog_9_method_5_code 120 = .ok (.iconst 1, 1) := by decide +kernel
theorem d_O_feed_121 : decode prog_9_method_5_code 121 = .ok (.ireturn, 1) := by decide +kernel
theorem d_O_free_0 : decode prog_9_method_12_code 0 = .ok (.sipush 512, 3) := by decide +kernel
theorem d_O_free_3 : decode prog_9_method_12_code 3 = .ok (.istore_n 1, 1) := by decide +kernel
theorem d_O_free_4 : decode prog_9_method_12_code 4 = .ok (.iconst 0, 1) := by decide +kernel
theorem d_O_free_5 : decode prog_9_method_12_code 5 = .ok (.istore_n 2, 1) := by decide +kernel
theorem d_O_free_6 : decode prog_9_method_12_code 6 = .ok (.iload_n 2, 1) := by decide +kernel
theorem d_O_free_7 : decode prog_9_method_12_code 7 = .ok (.sipush 512, 3) := by decide +kernel
theorem d_O_free_10 : decode prog_9_method_12_code 10 = .ok (.if_icmp .ge 34, 3) := by decide +kernel
theorem d_O_free_13 : decode prog_9_method_12_code 13 = .ok (.iload_n 1, 1) := by decide +kernel
theorem d_O_free_14 : decode prog_9_method_12_code 14 = .ok (.aload_n 0, 1) := by decide +kernel
theorem d_O_free_15 : decode prog_9_method_12_code 15 = .ok (.getfield 28, 3) := by decide +kernel
theorem d_O_free_18 : decode prog_9_method_12_code 18 = .ok (.iload_n 2, 1) := by decide +kernel
theorem d_O_free_19 : decode prog_9_method_12_code 19 = .ok (.saload, 1) := by decide +kernel
theorem d_O_free_20 : decode prog_9_method_12_code 20 = .ok (.ifCond .le 15, 3) := by decide +kernel
theorem d_O_free_35 : decode prog_9_method_12_code 35 = .ok (.iconst 0, 1) := by decide +kernel
theorem d_O_free_36 : decode prog_9_method_12_code 36 = .ok (.isub, 1) := by decide +kernel
theorem d_O_free_37 : decode prog_9_method_12_code 37 = .ok (.istore_n 1, 1) := by decide +kernel
theorem d_O_free_38 : decode prog_9_method_12_code 38 = .ok (.iinc 2 1, 3) := by decide +kernel
theorem d_O_free_41 : decode prog_9_method_12_code 41 = .ok (.goto (-35), 3) := by decide +kernel
theorem d_O_free_44 : decode prog_9_method_12_code 44 = .ok (.iload_n 1, 1) := by decide +kernel
theorem d_O_free_45 : decode prog_9_method_12_code 45 = .ok (.ireturn, 1) := by decide +kernel
theorem d_O_verify_0 : decode prog_9_method_37_code 0 = .ok (.aload_n 0, 1) := by decide +kernel
theorem d_O_verify_1 : decode prog_9_method_37_code 1 = .ok (.iconst 1, 1) := by decide +kernel
theorem d_O_verify_2 : decode prog_9_method_37_code 2 = .ok (.invokevirtual 72, 3) := by decide +kernel
theorem d_O_verify_5 : decode prog_9_method_37_code 5 = .ok (.ifCond .ne 5, 3) := by decide +kernel
theorem d_O_verify_10 : decode prog_9_method_37_code 10 = .ok (.iconst 0, 1) := by decide +kernel
theorem d_O_verify_11 : decode prog_9_method_37_code 11 = .ok (.istore_n 2, 1) := by decide +kernel
theorem d_O_verify_12 : decode prog_9_method_37_code 12 = .ok (.iload_n 2, 1) := by decide +kernel
theorem d_O_verify_13 : decode prog_9_method_37_code 13 = .ok (.bipush 64, 2) := by decide +kernel
theorem d_O_verify_15 : decode prog_9_method_37_code 15 = .ok (.if_icmp .ge 55, 3) := by decide +kernel
theorem d_O_verify_18 : decode prog_9_method_37_code 18 = .ok (.aload_n 0, 1) := by decide +kernel
theorem d_O_verify_19 : decode prog_9_method_37_code 19 = .ok (.iload_n 1, 1) := by decide +kernel
theorem d_O_verify_20 : decode prog_9_method_37_code 20 = .ok (.iload_n 2, 1) := by decide +kernel
theorem d_O_verify_21 : decode prog_9_method_37_code 21 = .ok (.invokevirtual 156, 3) := by decide +kernel
theorem d_O_verify_24 : decode prog_9_method_37_code 24 = .ok (.ifCond .eq 40, 3) := by decide +kernel
theorem d_O_verify_64 : decode prog_9_method_37_code 64 = .ok (.iinc 2 1, 3) := by decide +kernel
theorem d_O_verify_67 : decode prog_9_method_37_code 67 = .ok (.goto (-55), 3) := by decide +kernel
theorem d_O_verify_70 : decode prog_9_method_37_code 70 = .ok (.iconst (-1), 1) := by decide +kernel
theorem d_O_verify_71 : decode prog_9_method_37_code 71 = .ok (.ireturn, 1) := by decide +kernel
theorem d_O_freeBlocks_0 : decode prog_9_method_39_code 0 = .ok (.aload_n 0, 1) := by decide +kernel
theorem d_O_freeBlocks_1 : decode prog_9_method_39_code 1 = .ok (.iconst 1, 1) := by decide +kernel
theorem d_O_freeBlocks_2 : decode prog_9_method_39_code 2 = .ok (.invokevirtual 72, 3) := by decide +kernel
theorem d_O_freeBlocks_5 : decode prog_9_method_39_code 5 = .ok (.ifCond .eq 10, 3) := by decide +kernel
theorem d_O_freeBlocks_8 : decode prog_9_method_39_code 8 = .ok (.aload_n 0, 1) := by decide +kernel
theorem d_O_freeBlocks_9 : decode prog_9_method_39_code 9 = .ok (.invokevirtual 148, 3) := by decide +kernel
theorem d_O_freeBlocks_12 : decode prog_9_method_39_code 12 = .ok (.goto 4, 3) := by decide +kernel
theorem d_O_freeBlocks_16 : decode prog_9_method_39_code 16 = .ok (.ireturn, 1) := by decide +kernel
theorem d_K_about_0 : decode prog_1_method_11_code 0 = .ok (.aload_n 0, 1) := by decide +kernel
theorem d_K_about_1 : decode prog_1_method_11_code 1 = .ok (.invokevirtual 56, 3) := by decide +kernel
theorem d_K_about_4 : decode prog_1_method_11_code 4 = .ok (.aload_n 0, 1) := by decide +kernel
theorem d_K_about_5 : decode prog_1_method_11_code 5 = .ok (.iload_n 1, 1) := by decide +kernel
theorem d_K_about_6 : decode prog_1_method_11_code 6 = .ok (.invokevirtual 74, 3) := by decide +kernel
theorem d_K_about_9 : decode prog_1_method_11_code 9 = .ok (.astore_n 3, 1) := by decide +kernel
theorem d_K_about_10 : decode prog_1_method_11_code 10 = .ok (.aload_n 3, 1) := by decide +kernel
theorem d_K_about_11 : decode prog_1_method_11_code 11 = .ok (.ifnonnull 11, 3) := by decide +kernel
theorem d_K_about_14 : decode prog_1_method_11_code 14 = .ok (.new 140, 3) := by decide +kernel
theorem d_K_about_17 : decode prog_1_method_11_code 17 = .ok (.dup, 1) := by decide +kernel
theorem d_K_about_18 : decode prog_1_method_11_code 18 = .ok (.invokespecial 142, 3) := by decide +kernel
theorem d_K_about_21 : decode prog_1_method_11_code 21 = .ok (.athrow, 1) := by decide +kernel
theorem d_L_about_0 : decode method_12_code 0 = .ok (.aload_n 3, 1) := by decide +kernel
theorem d_L_about_1 : decode method_12_code 1 = .ok (.iconst 0, 1) := by decide +kernel
theorem d_L_about_2 : decode method_12_code 2 = .ok (.aload_n 0, 1) := by decide +kernel
theorem d_L_about_3 : decode method_12_code 3 = .ok (.iload_n 1, 1) := by decide +kernel
theorem d_L_about_4 : decode method_12_code 4 = .ok (.iload_n 2, 1) := by decide +kernel
theorem d_L_about_5 : decode method_12_code 5 = .ok (.invokevirtual 44, 3) := by decide +kernel
theorem d_L_about_13 : decode method_12_code 13 = .ok (.astore 4, 2) := by decide +kernel
theorem d_L_about_15 : decode method_12_code 15 = .ok (.iconst 1, 1) := by decide +kernel
theorem d_L_about_16 : decode method_12_code 16 = .ok (.ireturn, 1) := by decide +kernel
theorem d_K_revision_0 : decode prog_1_method_12_code 0 = .ok (.aload_n 0, 1) := by decide +kernel
theorem d_K_revision_1 : decode prog_1_method_12_code 1 = .ok (.invokevirtual 56, 3) := by decide +kernel
theorem d_K_revision_4 : decode prog_1_method_12_code 4 = .ok (.aload_n 0, 1) := by decide +kernel
theorem d_K_revision_5 : decode prog_1_method_12_code 5 = .ok (.iload_n 1, 1) := by decide +kernel
theorem d_K_revision_6 : decode prog_1_method_12_code 6 = .ok (.invokevirtual 74, 3) := by decide +kernel
theorem d_K_revision_9 : decode prog_1_method_12_code 9 = .ok (.astore 4, 2) := by decide +kernel
theorem d_K_revision_11 : decode prog_1_method_12_code 11 = .ok (.aload_n 0, 1) := by decide +kernel
theorem d_K_revision_12 : decode prog_1_method_12_code 12 = .ok (.iload_n 1, 1) := by decide +kernel
theorem d_K_revision_13 : decode prog_1_method_12_code 13 = .ok (.iload_n 2, 1) := by decide +kernel
theorem d_K_revision_14 : decode prog_1_method_12_code 14 = .ok (.invokevirtual 149, 3) := by decide +kernel
theorem d_K_revision_17 : decode prog_1_method_12_code 17 = .ok (.astore 5, 2) := by decide +kernel
theorem d_K_revision_19 : decode prog_1_method_12_code 19 = .ok (.aload 4, 2) := by decide +kernel
theorem d_K_revision_21 : decode prog_1_method_12_code 21 = .ok (.ifnull 16, 3) := by decide +kernel
theorem d_K_revision_37 : decode prog_1_method_12_code 37 = .ok (.iconst 0, 1) := by decide +kernel
theorem d_K_revision_38 : decode prog_1_method_12_code 38 = .ok (.istore 6, 2) := by decide +kernel
theorem d_K_revision_40 : decode prog_1_method_12_code 40 = .ok (.aload 5, 2) := by decide +kernel
theorem d_K_revision_42 : decode prog_1_method_12_code 42 = .ok (.ifnull 17, 3) := by decide +kernel
theorem d_K_revision_59 : decode prog_1_method_12_code 59 = .ok (.new 140, 3) := by decide +kernel
theorem d_K_revision_62 : decode prog_1_method_12_code 62 = .ok (.dup, 1) := by decide +kernel
theorem d_K_revision_63 : decode prog_1_method_12_code 63 = .ok (.invokespecial 142, 3) := by decide +kernel
theorem d_K_revision_66 : decode prog_1_method_12_code 66 = .ok (.athrow, 1) := by decide +kernel
theorem d_L_revision_0 : decode method_13_code 0 = .ok (.aload 4, 2) := by decide +kernel
theorem d_L_revision_2 : decode method_13_code 2 = .ok (.iconst 0, 1) := by decide +kernel
theorem d_L_revision_3 : decode method_13_code 3 = .ok (.aload_n 0, 1) := by decide +kernel
theorem d_L_revision_4 : decode method_13_code 4 = .ok (.iload_n 1, 1) := by decide +kernel
theorem d_L_revision_5 : decode method_13_code 5 = .ok (.iload_n 2, 1) := by decide +kernel
theorem d_L_revision_6 : decode method_13_code 6 = .ok (.iload_n 3, 1) := by decide +kernel
theorem d_L_revision_7 : decode method_13_code 7 = .ok (.invokevirtual 51, 3) := by decide +kernel
theorem d_L_revision_15 : decode method_13_code 15 = .ok (.astore 5, 2) := by decide +kernel
theorem d_L_revision_17 : decode method_13_code 17 = .ok (.iconst 1, 1) := by decide +kernel
theorem d_L_revision_18 : decode method_13_code 18 = .ok (.ireturn, 1) := by decide +kernel
theorem d_L_feed_0 : decode method_3_code 0 = .ok (.aload 6, 2) := by decide +kernel
theorem d_L_feed_2 : decode method_3_code 2 = .ok (.iconst 0, 1) := by decide +kernel
theorem d_L_feed_3 : decode method_3_code 3 = .ok (.aload_n 0, 1) := by decide +kernel
theorem d_L_feed_4 : decode method_3_code 4 = .ok (.iload_n 1, 1) := by decide +kernel
theorem d_L_feed_5 : decode method_3_code 5 = .ok (.iload_n 2, 1) := by decide +kernel
theorem d_L_feed_6 : decode method_3_code 6 = .ok (.iload_n 3, 1) := by decide +kernel
theorem d_L_feed_7 : decode method_3_code 7 = .ok (.iload 4, 2) := by decide +kernel
theorem d_L_feed_9 : decode method_3_code 9 = .ok (.iload 5, 2) := by decide +kernel
theorem d_L_feed_11 : decode method_3_code 11 = .ok (.invokevirtual 7, 3) := by decide +kernel
theorem d_L_feed_14 : decode method_3_code 14 = .ok (.ifCond .eq 7, 3) := by decide +kernel
theorem d_L_feed_17 : decode method_3_code 17 = .ok (.lconst 1, 1) := by decide +kernel
theorem d_L_feed_18 : decode method_3_code 18 = .ok (.goto 4, 3) := by decide +kernel
theorem d_L_feed_22 : decode method_3_code 22 = .ok (.lastore, 1) := by decide +kernel
theorem d_L_feed_23 : decode method_3_code 23 = .ok (.goto 7, 3) := by decide +kernel
theorem d_L_feed_30 : decode method_3_code 30 = .ok (.iconst 0, 1) := by decide +kernel
theorem d_L_feed_31 : decode method_3_code 31 = .ok (.ireturn, 1) := by decide +kernel
theorem d_L_end_0 : decode method_4_code 0 = .ok (.aload_n 2, 1) := by decide +kernel
theorem d_L_end_1 : decode method_4_code 1 = .ok (.iconst 0, 1) := by decide +kernel
theorem d_L_end_2 : decode method_4_code 2 = .ok (.aload_n 0, 1) := by decide +kernel
theorem d_L_end_3 : decode method_4_code 3 = .ok (.iload_n 1, 1) := by decide +kernel
theorem d_L_end_4 : decode method_4_code 4 = .ok (.invokevirtual 15, 3) := by decide +kernel
theorem d_L_end_7 : decode method_4_code 7 = .ok (.ifCond .eq 7, 3) := by decide +kernel
theorem d_L_end_10 : decode method_4_code 10 = .ok (.lconst 1, 1) := by decide +kernel
theorem d_L_end_11 : decode method_4_code 11 = .ok (.goto 4, 3) := by decide +kernel
theorem d_L_end_14 : decode method_4_code 14 = .ok (.lconst 0, 1) := by decide +kernel
theorem d_L_end_15 : decode method_4_code 15 = .ok (.lastore, 1) := by decide +kernel
theorem d_L_end_16 : decode method_4_code 16 = .ok (.goto 6, 3) := by decide +kernel
theorem d_L_end_22 : decode method_4_code 22 = .ok (.iconst 0, 1) := by decide +kernel
theorem d_L_end_23 : decode method_4_code 23 = .ok (.ireturn, 1) := by decide +kernel
theorem d_L_make_0 : decode method_5_code 0 = .ok (.aload_n 1, 1) := by decide +kernel
theorem d_L_make_1 : decode method_5_code 1 = .ok (.iconst 0, 1) := by decide +kernel
theorem d_L_make_2 : decode method_5_code 2 = .ok (.aload_n 0, 1) := by decide +kernel
theorem d_L_make_3 : decode method_5_code 3 = .ok (.invokevirtual 19, 3) := by decide +kernel
theorem d_L_make_6 : decode method_5_code 6 = .ok (.i2l, 1) := by decide +kernel
theorem d_L_make_7 : decode method_5_code 7 = .ok (.lastore, 1) := by decide +kernel
theorem d_L_make_8 : decode method_5_code 8 = .ok (.goto 6, 3) := by decide +kernel
theorem d_L_make_14 : decode method_5_code 14 = .ok (.iconst 0, 1) := by decide +kernel
theorem d_L_make_15 : decode method_5_code 15 = .ok (.ireturn, 1) := by decide +kernel
theorem d_L_commit_0 : decode method_6_code 0 = .ok (.aload_n 3, 1) := by decide +kernel
theorem d_L_commit_1 : decode method_6_code 1 = .ok (.iconst 0, 1) := by decide +kernel
theorem d_L_commit_2 : decode method_6_code 2 = .ok (.aload_n 0, 1) := by decide +kernel
theorem d_L_commit_3 : decode method_6_code 3 = .ok (.iload_n 1, 1) := by decide +kernel
theorem d_L_commit_4 : decode method_6_code 4 = .ok (.iload_n 2, 1) := by decide +kernel
theorem d_L_commit_5 : decode method_6_code 5 = .ok (.invokevirtual 23, 3) := by decide +kernel
theorem d_L_commit_8 : decode method_6_code 8 = .ok (.i2l, 1) := by decide +kernel
theorem d_L_commit_9 : decode method_6_code 9 = .ok (.lastore, 1) := by decide +kernel
theorem d_L_commit_10 : decode method_6_code 10 = .ok (.goto 7, 3) := by decide +kernel
theorem d_L_commit_17 : decode method_6_code 17 = .ok (.iconst 0, 1) := by decide +kernel
theorem d_L_commit_18 : decode method_6_code 18 = .ok (.ireturn, 1) := by decide +kernel
theorem d_L_fetch_0 : decode method_7_code 0 = .ok (.aload_n 3, 1) := by decide +kernel
theorem d_L_fetch_1 : decode method_7_code 1 = .ok (.iconst 0, 1) := by decide +kernel
theorem d_L_fetch_2 : decode method_7_code 2 = .ok (.aload_n 0, 1) := by decide +kernel
theorem d_L_fetch_3 : decode method_7_code 3 = .ok (.iload_n 1, 1) := by decide +kernel
theorem d_L_fetch_4 : decode method_7_code 4 = .ok (.iload_n 2, 1) := by decide +kernel
theorem d_L_fetch_5 : decode method_7_code 5 = .ok (.invokevirtual 27, 3) := by decide +kernel
theorem d_L_fetch_8 : decode method_7_code 8 = .ok (.i2l, 1) := by decide +kernel
theorem d_L_fetch_9 : decode method_7_code 9 = .ok (.lastore, 1) := by decide +kernel
theorem d_L_fetch_10 : decode method_7_code 10 = .ok (.goto 7, 3) := by decide +kernel
theorem d_L_fetch_17 : decode method_7_code 17 = .ok (.iconst 0, 1) := by decide +kernel
theorem d_L_fetch_18 : decode method_7_code 18 = .ok (.ireturn, 1) := by decide +kernel
theorem d_L_out_0 : decode method_8_code 0 = .ok (.aload_n 2, 1) := by decide +kernel
theorem d_L_out_1 : decode method_8_code 1 = .ok (.iconst 0, 1) := by decide +kernel
theorem d_L_out_2 : decode method_8_code 2 = .ok (.aload_n 0, 1) := by decide +kernel
theorem d_L_out_3 : decode method_8_code 3 = .ok (.iload_n 1, 1) := by decide +kernel
theorem d_L_out_4 : decode method_8_code 4 = .ok (.invokevirtual 30, 3) := by decide +kernel
theorem d_L_out_7 : decode method_8_code 7 = .ok (.i2l, 1) := by decide +kernel
theorem d_L_out_8 : decode method_8_code 8 = .ok (.lastore, 1) := by decide +kernel
theorem d_L_out_9 : decode method_8_code 9 = .ok (.goto 6, 3) := by decide +kernel
theorem d_L_out_15 : decode method_8_code 15 = .ok (.iconst 0, 1) := by decide +kernel
theorem d_L_out_16 : decode method_8_code 16 = .ok (.ireturn, 1) := by decide +kernel
theorem d_L_steps_0 : decode method_9_code 0 = .ok (.aload_n 1, 1) := by decide +kernel
theorem d_L_steps_1 : decode method_9_code 1 = .ok (.iconst 0, 1) := by decide +kernel
theorem d_L_steps_2 : decode method_9_code 2 = .ok (.aload_n 0, 1) := by decide +kernel
theorem d_L_steps_3 : decode method_9_code 3 = .ok (.invokevirtual 34, 3) := by decide +kernel
theorem d_L_steps_6 : decode method_9_code 6 = .ok (.i2l, 1) := by decide +kernel
theorem d_L_steps_7 : decode method_9_code 7 = .ok (.lastore, 1) := by decide +kernel
theorem d_L_steps_8 : decode method_9_code 8 = .ok (.goto 6, 3) := by decide +kernel
theorem d_L_steps_14 : decode method_9_code 14 = .ok (.iconst 0, 1) := by decide +kernel
theorem d_L_steps_15 : decode method_9_code 15 = .ok (.ireturn, 1) := by decide +kernel
theorem d_L_trim_0 : decode method_10_code 0 = .ok (.aload_n 3, 1) := by decide +kernel
theorem d_L_trim_1 : decode method_10_code 1 = .ok (.iconst 0, 1) := by decide +kernel
theorem d_L_trim_2 : decode method_10_code 2 = .ok (.aload_n 0, 1) := by decide +kernel
theorem d_L_trim_3 : decode method_10_code 3 = .ok (.iload_n 1, 1) := by decide +kernel
theorem d_L_trim_4 : decode method_10_code 4 = .ok (.iload_n 2, 1) := by decide +kernel
theorem d_L_trim_5 : decode method_10_code 5 = .ok (.invokevirtual 37, 3) := by decide +kernel
theorem d_L_trim_8 : decode method_10_code 8 = .ok (.ifCond .eq 7, 3) := by decide +kernel
theorem d_L_trim_15 : decode method_10_code 15 = .ok (.lconst 0, 1) := by decide +kernel
theorem d_L_trim_16 : decode method_10_code 16 = .ok (.lastore, 1) := by decide +kernel
theorem d_L_trim_17 : decode method_10_code 17 = .ok (.goto 7, 3) := by decide +kernel
theorem d_L_trim_24 : decode method_10_code 24 = .ok (.iconst 0, 1) := by decide +kernel
theorem d_L_trim_25 : decode method_10_code 25 = .ok (.ireturn, 1) := by decide +kernel
theorem d_L_dropDocument_0 : decode method_11_code 0 = .ok (.aload_n 2, 1) := by decide +kernel
theorem d_L_dropDocument_1 : decode method_11_code 1 = .ok (.iconst 0, 1) := by decide +kernel
theorem d_L_dropDocument_2 : decode method_11_code 2 = .ok (.aload_n 0, 1) := by decide +kernel
theorem d_L_dropDocument_3 : decode method_11_code 3 = .ok (.iload_n 1, 1) := by decide +kernel
theorem d_L_dropDocument_4 : decode method_11_code 4 = .ok (.invokevirtual 41, 3) := by decide +kernel
theorem d_L_dropDocument_7 : decode method_11_code 7 = .ok (.ifCond .eq 7, 3) := by decide +kernel
theorem d_L_dropDocument_14 : decode method_11_code 14 = .ok (.lconst 0, 1) := by decide +kernel
theorem d_L_dropDocument_15 : decode method_11_code 15 = .ok (.lastore, 1) := by decide +kernel
theorem d_L_dropDocument_16 : decode method_11_code 16 = .ok (.goto 6, 3) := by decide +kernel
theorem d_L_dropDocument_22 : decode method_11_code 22 = .ok (.iconst 0, 1) := by decide +kernel
theorem d_L_dropDocument_23 : decode method_11_code 23 = .ok (.ireturn, 1) := by decide +kernel
theorem d_L_pieceByte_0 : decode method_14_code 0 = .ok (.aload 4, 2) := by decide +kernel
theorem d_L_pieceByte_2 : decode method_14_code 2 = .ok (.iconst 0, 1) := by decide +kernel
theorem d_L_pieceByte_3 : decode method_14_code 3 = .ok (.aload_n 0, 1) := by decide +kernel
theorem d_L_pieceByte_4 : decode method_14_code 4 = .ok (.iload_n 1, 1) := by decide +kernel
theorem d_L_pieceByte_5 : decode method_14_code 5 = .ok (.iload_n 2, 1) := by decide +kernel
theorem d_L_pieceByte_6 : decode method_14_code 6 = .ok (.iload_n 3, 1) := by decide +kernel
theorem d_L_pieceByte_7 : decode method_14_code 7 = .ok (.invokevirtual 55, 3) := by decide +kernel
theorem d_L_pieceByte_10 : decode method_14_code 10 = .ok (.i2l, 1) := by decide +kernel
theorem d_L_pieceByte_11 : decode method_14_code 11 = .ok (.lastore, 1) := by decide +kernel
theorem d_L_pieceByte_12 : decode method_14_code 12 = .ok (.goto 7, 3) := by decide +kernel
theorem d_L_pieceByte_19 : decode method_14_code 19 = .ok (.iconst 0, 1) := by decide +kernel
theorem d_L_pieceByte_20 : decode method_14_code 20 = .ok (.ireturn, 1) := by decide +kernel
theorem d_L_damage_0 : decode method_15_code 0 = .ok (.aload 5, 2) := by decide +kernel
theorem d_L_damage_2 : decode method_15_code 2 = .ok (.iconst 0, 1) := by decide +kernel
theorem d_L_damage_3 : decode method_15_code 3 = .ok (.aload_n 0, 1) := by decide +kernel
theorem d_L_damage_4 : decode method_15_code 4 = .ok (.iload_n 1, 1) := by decide +kernel
theorem d_L_damage_5 : decode method_15_code 5 = .ok (.iload_n 2, 1) := by decide +kernel
theorem d_L_damage_6 : decode method_15_code 6 = .ok (.iload_n 3, 1) := by decide +kernel
theorem d_L_damage_7 : decode method_15_code 7 = .ok (.iload 4, 2) := by decide +kernel
theorem d_L_damage_9 : decode method_15_code 9 = .ok (.invokevirtual 58, 3) := by decide +kernel
theorem d_L_damage_12 : decode method_15_code 12 = .ok (.ifCond .eq 7, 3) := by decide +kernel
theorem d_L_damage_19 : decode method_15_code 19 = .ok (.lconst 0, 1) := by decide +kernel
theorem d_L_damage_20 : decode method_15_code 20 = .ok (.lastore, 1) := by decide +kernel
theorem d_L_damage_21 : decode method_15_code 21 = .ok (.goto 7, 3) := by decide +kernel
theorem d_L_damage_28 : decode method_15_code 28 = .ok (.iconst 0, 1) := by decide +kernel
theorem d_L_damage_29 : decode method_15_code 29 = .ok (.ireturn, 1) := by decide +kernel
theorem d_L_verify_0 : decode method_16_code 0 = .ok (.aload_n 2, 1) := by decide +kernel
theorem d_L_verify_1 : decode method_16_code 1 = .ok (.iconst 0, 1) := by decide +kernel
theorem d_L_verify_2 : decode method_16_code 2 = .ok (.aload_n 0, 1) := by decide +kernel
theorem d_L_verify_3 : decode method_16_code 3 = .ok (.iload_n 1, 1) := by decide +kernel
theorem d_L_verify_4 : decode method_16_code 4 = .ok (.invokevirtual 62, 3) := by decide +kernel
theorem d_L_verify_7 : decode method_16_code 7 = .ok (.i2l, 1) := by decide +kernel
theorem d_L_verify_8 : decode method_16_code 8 = .ok (.lastore, 1) := by decide +kernel
theorem d_L_verify_9 : decode method_16_code 9 = .ok (.goto 6, 3) := by decide +kernel
theorem d_L_verify_15 : decode method_16_code 15 = .ok (.iconst 0, 1) := by decide +kernel
theorem d_L_verify_16 : decode method_16_code 16 = .ok (.ireturn, 1) := by decide +kernel
theorem d_L_common_0 : decode method_17_code 0 = .ok (.aload 5, 2) := by decide +kernel
theorem d_L_common_2 : decode method_17_code 2 = .ok (.iconst 0, 1) := by decide +kernel
theorem d_L_common_3 : decode method_17_code 3 = .ok (.aload_n 0, 1) := by decide +kernel
theorem d_L_common_4 : decode method_17_code 4 = .ok (.iload_n 1, 1) := by decide +kernel
theorem d_L_common_5 : decode method_17_code 5 = .ok (.iload_n 2, 1) := by decide +kernel
theorem d_L_common_6 : decode method_17_code 6 = .ok (.iload_n 3, 1) := by decide +kernel
theorem d_L_common_7 : decode method_17_code 7 = .ok (.iload 4, 2) := by decide +kernel
theorem d_L_common_9 : decode method_17_code 9 = .ok (.invokevirtual 65, 3) := by decide +kernel
theorem d_L_common_12 : decode method_17_code 12 = .ok (.i2l, 1) := by decide +kernel
theorem d_L_common_13 : decode method_17_code 13 = .ok (.lastore, 1) := by decide +kernel
theorem d_L_common_14 : decode method_17_code 14 = .ok (.goto 7, 3) := by decide +kernel
theorem d_L_common_21 : decode method_17_code 21 = .ok (.iconst 0, 1) := by decide +kernel
theorem d_L_common_22 : decode method_17_code 22 = .ok (.ireturn, 1) := by decide +kernel
theorem d_L_freeBlocks_0 : decode method_18_code 0 = .ok (.aload_n 1, 1) := by decide +kernel
theorem d_L_freeBlocks_1 : decode method_18_code 1 = .ok (.iconst 0, 1) := by decide +kernel
theorem d_L_freeBlocks_2 : decode method_18_code 2 = .ok (.aload_n 0, 1) := by decide +kernel
theorem d_L_freeBlocks_3 : decode method_18_code 3 = .ok (.invokevirtual 69, 3) := by decide +kernel
theorem d_L_freeBlocks_6 : decode method_18_code 6 = .ok (.i2l, 1) := by decide +kernel
theorem d_L_freeBlocks_7 : decode method_18_code 7 = .ok (.lastore, 1) := by decide +kernel
theorem d_L_freeBlocks_8 : decode method_18_code 8 = .ok (.goto 6, 3) := by decide +kernel
theorem d_L_freeBlocks_14 : decode method_18_code 14 = .ok (.iconst 0, 1) := by decide +kernel
theorem d_L_freeBlocks_15 : decode method_18_code 15 = .ok (.ireturn, 1) := by decide +kernel
theorem d_L_cutAfter_0 : decode method_19_code 0 = .ok (.aload_n 2, 1) := by decide +kernel
theorem d_L_cutAfter_1 : decode method_19_code 1 = .ok (.iconst 0, 1) := by decide +kernel
theorem d_L_cutAfter_2 : decode method_19_code 2 = .ok (.aload_n 0, 1) := by decide +kernel
theorem d_L_cutAfter_3 : decode method_19_code 3 = .ok (.iload_n 1, 1) := by decide +kernel
theorem d_L_cutAfter_4 : decode method_19_code 4 = .ok (.invokevirtual 72, 3) := by decide +kernel
theorem d_L_cutAfter_7 : decode method_19_code 7 = .ok (.ifCond .eq 7, 3) := by decide +kernel
theorem d_L_cutAfter_10 : decode method_19_code 10 = .ok (.lconst 1, 1) := by decide +kernel
theorem d_L_cutAfter_11 : decode method_19_code 11 = .ok (.goto 4, 3) := by decide +kernel
theorem d_L_cutAfter_14 : decode method_19_code 14 = .ok (.lconst 0, 1) := by decide +kernel
theorem d_L_cutAfter_15 : decode method_19_code 15 = .ok (.lastore, 1) := by decide +kernel
theorem d_L_cutAfter_16 : decode method_19_code 16 = .ok (.goto 6, 3) := by decide +kernel
theorem d_L_cutAfter_22 : decode method_19_code 22 = .ok (.iconst 0, 1) := by decide +kernel
theorem d_L_cutAfter_23 : decode method_19_code 23 = .ok (.ireturn, 1) := by decide +kernel
end
section
/-! the words that all contracts share, the nest mates' words, facts on the tables -/
def w0_0 : List Cond := [.laysFinal "TextKeeper" "TextKeeper" "documents" "[LTextKeeper$Document;",
  .laysFinal "TextKeeper" "TextKeeper" "buffer" "LTextKeeper$Text;",
  .laysFinal "TextKeeper" "TextKeeper" "fetched" "LTextKeeper$Text;",
  .laysFinal "TextKeeper" "TextKeeper" "compared" "LTextKeeper$Text;",
  .laysFinal "TextKeeper" "TextKeeper" "maker" "LTextKeeper$Maker;",
  .laysFinal "TextKeeper" "TextKeeper" "writer" "LTextKeeper$PieceWriter;",
  .laysFinal "TextKeeper" "TextKeeper" "power" "LTextKeeper$Power;",
  .lays "TextKeeper" "TextKeeper" "madeDocuments" "I",
  .lays "TextKeeper" "TextKeeper" "fetchedSteps" "I",
  .laysFinal "TextKeeper$Text" "TextKeeper$Text" "bytes" "[B",
  .lays "TextKeeper$Text" "TextKeeper$Text" "length" "I",
  .lays "TextKeeper$Maker" "TextKeeper$Maker" "base" "LTextKeeper$Text;",
  .lays "TextKeeper$Maker" "TextKeeper$Maker" "text" "LTextKeeper$Text;",
  .lays "TextKeeper$Maker" "TextKeeper$Maker" "piece" "[B",
  .lays "TextKeeper$Maker" "TextKeeper$Maker" "at" "I",
  .laysFinal "TextKeeper$PieceWriter" "TextKeeper$PieceWriter" "row" "[B",
  .lays "TextKeeper$PieceWriter" "TextKeeper$PieceWriter" "length" "I",
  .lays "TextKeeper$Power" "TextKeeper$Power" "down" "Z",
  .lays "TextKeeper$Power" "TextKeeper$Power" "going" "Z",
  .lays "TextKeeper$Power" "TextKeeper$Power" "writesLeft" "I",
  .laysFinal "TextKeeper$Document" "TextKeeper$Document" "revisions" "[LTextKeeper$Revision;",
  .lays "TextKeeper$Document" "TextKeeper$Document" "first" "I",
  .lays "TextKeeper$Document" "TextKeeper$Document" "count" "I",
  .laysFinal "TextKeeper$Revision" "TextKeeper$Revision" "piece" "[B",
  .laysFinal "TextKeeper$Revision" "TextKeeper$Revision" "author" "I",
  .laysFinal "TextKeeper$Revision" "TextKeeper$Revision" "sum" "I",
  .lays "TextKeeperModel" "TextKeeperModel" "thrown" "I",
  .lays "TextKeeperModel" "TextKeeperModel" "down" "Z",
  .lays "TextKeeperModel" "TextKeeperModel" "lasts" "I",
  .laysFinal "TextKeeperModel" "TextKeeperModel" "buffer" "[B",
  .lays "TextKeeperModel" "TextKeeperModel" "size" "I",
  .lays "TextKeeperModel" "TextKeeperModel" "documents" "I",
  .laysFinal "TextKeeperModel" "TextKeeperModel" "gone" "[Z",
  .laysFinal "TextKeeperModel" "TextKeeperModel" "first" "[I",
  .laysFinal "TextKeeperModel" "TextKeeperModel" "many" "[I",
  .laysFinal "TextKeeperModel" "TextKeeperModel" "lengths" "[S",
  .laysFinal "TextKeeperModel" "TextKeeperModel" "authors" "[I",
  .laysFinal "TextKeeperModel" "TextKeeperModel" "sums" "[I",
  .laysFinal "TextKeeperModel" "TextKeeperModel" "row" "[B",
  .lays "TextKeeperModel" "TextKeeperModel" "made" "[B"]
def w0_1 : List Cond := [.lays "TextKeeperModel" "TextKeeperModel" "madeSize" "I",
  .lays "TextKeeperModel" "TextKeeperModel" "base" "[B",
  .lays "TextKeeperModel" "TextKeeperModel" "baseSize" "I",
  .laysFinal "TextKeeperModel" "TextKeeperModel" "text" "[B",
  .lays "TextKeeperModel" "TextKeeperModel" "textSize" "I",
  .lays "TextKeeperModel" "TextKeeperModel" "textSteps" "I",
  .laysFinal "TextKeeperModel" "TextKeeperModel" "other" "[B",
  .lays "TextKeeperModel" "TextKeeperModel" "otherSize" "I",
  .laysFinal "TextKeeperModel" "TextKeeperModel" "piece" "[B",
  .lays "TextKeeperModel" "TextKeeperModel" "pieceSize" "I",
  .lays "TextKeeperModel" "TextKeeperModel" "at" "I",
  .lays "TextKeeperModel" "TextKeeperModel" "end" "I",
  .lays "TextKeeperModel" "TextKeeperModel" "value" "I",
  .methodLink R_P 1 objectInit,
  .instanceMethod objectInit,
  .code objectInit ⟨#[0xb1]⟩ 1 none,
  .fieldLink R_P 7 "TextKeeper$Power" "down" "Z",
  .fieldLink R_P 13 "TextKeeper$Power" "going" "Z",
  .fieldLink R_P 16 "TextKeeper$Power" "writesLeft" "I",
  .methodLink R_T 3 objectInit,
  .arrayClass .byte,
  .fieldLink R_T 9 "TextKeeper$Text" "bytes" "[B",
  .fieldLink R_T 15 "TextKeeper$Text" "length" "I",
  .methodLink R_W 3 objectInit,
  .fieldLink R_W 9 "TextKeeper$PieceWriter" "row" "[B",
  .fieldLink R_W 15 "TextKeeper$PieceWriter" "length" "I",
  .methodLink R_M 3 objectInit,
  .classLink R_M 9 R_T,
  .instantiable R_T 2,
  .initialized R_T,
  .code y_T_init prog_7_method_1_code 1 none,
  .methodLink R_M 11 y_T_init,
  .instanceMethod y_T_init,
  .fieldLink R_M 12 "TextKeeper$Maker" "base" "LTextKeeper$Text;",
  .fieldLink R_M 18 "TextKeeper$Maker" "text" "LTextKeeper$Text;",
  .fieldLink R_M 21 "TextKeeper$Maker" "piece" "[B",
  .fieldLink R_M 25 "TextKeeper$Maker" "at" "I",
  .methodLink R_K 1 objectInit,
  .classLink R_K 9 R_D,
  .fieldLink R_K 11 "TextKeeper" "documents" "[LTextKeeper$Document;"]
def w0_2 : List Cond := [.classLink R_K 15 R_T,
  .methodLink R_K 17 y_T_init,
  .fieldLink R_K 18 "TextKeeper" "buffer" "LTextKeeper$Text;",
  .fieldLink R_K 22 "TextKeeper" "fetched" "LTextKeeper$Text;",
  .fieldLink R_K 25 "TextKeeper" "compared" "LTextKeeper$Text;",
  .classLink R_K 28 R_M,
  .instantiable R_M 4,
  .initialized R_M,
  .code y_M_init prog_3_method_1_code 1 none,
  .methodLink R_K 30 y_M_init,
  .instanceMethod y_M_init,
  .fieldLink R_K 31 "TextKeeper" "maker" "LTextKeeper$Maker;",
  .classLink R_K 35 R_W,
  .instantiable R_W 2,
  .initialized R_W,
  .code y_W_init prog_4_method_1_code 1 none,
  .methodLink R_K 37 y_W_init,
  .instanceMethod y_W_init,
  .fieldLink R_K 38 "TextKeeper" "writer" "LTextKeeper$PieceWriter;",
  .classLink R_K 42 R_P,
  .instantiable R_P 3,
  .initialized R_P,
  .code y_P_init prog_5_method_1_code 1 none,
  .methodLink R_K 44 y_P_init,
  .instanceMethod y_P_init,
  .fieldLink R_K 45 "TextKeeper" "power" "LTextKeeper$Power;",
  .fieldLink R_K 49 "TextKeeper" "madeDocuments" "I",
  .fieldLink R_K 53 "TextKeeper" "fetchedSteps" "I",
  .methodLink R_K 74 y_K_documentAt,
  .instanceMethod y_K_documentAt,
  .selects R_K y_K_documentAt y_K_documentAt,
  .initialized R_K,
  .code y_K_documentAt prog_1_method_23_code 2 (some (.object "TextKeeper$Document")),
  .methodLink R_K 56 y_K_needPower,
  .instanceMethod y_K_needPower,
  .selects R_K y_K_needPower y_K_needPower,
  .code y_K_needPower prog_1_method_21_code 1 none,
  .methodLink R_K 149 y_K_keptRevision,
  .instanceMethod y_K_keptRevision,
  .selects R_K y_K_keptRevision y_K_keptRevision]
def w0_3 : List Cond := [.code y_K_keptRevision prog_1_method_24_code 4 (some (.object "TextKeeper$Revision")),
  .methodLink R_K 134 y_T_byteAt,
  .instanceMethod y_T_byteAt,
  .selects R_T y_T_byteAt y_T_byteAt,
  .code y_T_byteAt prog_7_method_2_code 2 (some .int),
  .methodLink R_K 97 y_K_countFree,
  .instanceMethod y_K_countFree,
  .selects R_K y_K_countFree y_K_countFree,
  .code y_K_countFree prog_1_method_26_code 6 (some .int),
  .methodLink R_T 19 y_T_addByte,
  .instanceMethod y_T_addByte,
  .selects R_T y_T_addByte y_T_addByte,
  .code y_T_addByte prog_7_method_4_code 2 none,
  .methodLink R_K 59 y_T_hasRoom,
  .instanceMethod y_T_hasRoom,
  .selects R_T y_T_hasRoom y_T_hasRoom,
  .code y_T_hasRoom prog_7_method_3_code 2 (some .boolean),
  .methodLink R_K 63 y_T_addInt,
  .instanceMethod y_T_addInt,
  .selects R_T y_T_addInt y_T_addInt,
  .code y_T_addInt prog_7_method_5_code 3 none,
  .methodLink R_K 67 y_T_shorten,
  .instanceMethod y_T_shorten,
  .selects R_T y_T_shorten y_T_shorten,
  .code y_T_shorten prog_7_method_6_code 2 (some .boolean),
  .methodLink R_K 190 y_P_lastsFor,
  .instanceMethod y_P_lastsFor,
  .selects R_P y_P_lastsFor y_P_lastsFor,
  .code y_P_lastsFor prog_5_method_4_code 2 (some .boolean),
  .methodLink R_D 3 objectInit,
  .classLink R_D 9 R_V,
  .fieldLink R_D 11 "TextKeeper$Document" "revisions" "[LTextKeeper$Revision;",
  .fieldLink R_D 17 "TextKeeper$Document" "first" "I",
  .fieldLink R_D 21 "TextKeeper$Document" "count" "I",
  .methodLink R_K 70 y_K_spendWrites,
  .instanceMethod y_K_spendWrites,
  .selects R_K y_K_spendWrites y_K_spendWrites,
  .code y_K_spendWrites prog_1_method_22_code 2 none,
  .instantiable R_D 3,
  .initialized R_D]
def w0_4 : List Cond := [.code y_D_init prog_2_method_1_code 1 none,
  .methodLink R_K 73 y_D_init,
  .instanceMethod y_D_init,
  .methodLink R_K 177 y_P_goAfter,
  .instanceMethod y_P_goAfter,
  .selects R_P y_P_goAfter y_P_goAfter,
  .code y_P_goAfter prog_5_method_2_code 2 none,
  .fieldLink R_O 65 "TextKeeperModel" "down" "Z",
  .fieldLink R_O 62 "TextKeeperModel" "thrown" "I",
  .fieldLink R_O 76 "TextKeeperModel" "documents" "I",
  .methodLink R_O 79 y_O_isDocument,
  .instanceMethod y_O_isDocument,
  .selects R_O y_O_isDocument y_O_isDocument,
  .initialized R_O,
  .code y_O_isDocument prog_9_method_7_code 2 (some .boolean),
  .fieldLink R_O 9 "TextKeeperModel" "lasts" "I",
  .methodLink R_O 72 y_O_runs,
  .instanceMethod y_O_runs,
  .selects R_O y_O_runs y_O_runs,
  .code y_O_runs prog_9_method_3_code 2 (some .boolean),
  .methodLink R_O 97 y_O_writes,
  .instanceMethod y_O_writes,
  .selects R_O y_O_writes y_O_writes,
  .code y_O_writes prog_9_method_4_code 2 (some .boolean),
  .methodLink R_O 156 y_O_isAsked,
  .instanceMethod y_O_isAsked,
  .selects R_O y_O_isAsked y_O_isAsked,
  .code y_O_isAsked prog_9_method_8_code 3 (some .boolean),
  .methodLink R_O 162 y_O_kept,
  .instanceMethod y_O_kept,
  .selects R_O y_O_kept y_O_kept,
  .code y_O_kept prog_9_method_9_code 3 (some .int),
  .fieldLink R_O 50 "TextKeeperModel" "textSize" "I",
  .fieldLink R_O 53 "TextKeeperModel" "textSteps" "I",
  .fieldLink R_O 69 "TextKeeperModel" "size" "I",
  .fieldLink R_O 28 "TextKeeperModel" "lengths" "[S",
  .fieldLink R_O 13 "TextKeeperModel" "buffer" "[B",
  .methodLink R_O 1 objectInit,
  .arrayClass .boolean,
  .fieldLink R_O 17 "TextKeeperModel" "gone" "[Z"]
def w0_5 : List Cond := [.arrayClass .int,
  .fieldLink R_O 21 "TextKeeperModel" "first" "[I",
  .fieldLink R_O 25 "TextKeeperModel" "many" "[I",
  .arrayClass .short,
  .fieldLink R_O 32 "TextKeeperModel" "authors" "[I",
  .fieldLink R_O 35 "TextKeeperModel" "sums" "[I",
  .fieldLink R_O 38 "TextKeeperModel" "row" "[B",
  .fieldLink R_O 41 "TextKeeperModel" "made" "[B",
  .fieldLink R_O 44 "TextKeeperModel" "base" "[B",
  .fieldLink R_O 47 "TextKeeperModel" "text" "[B",
  .fieldLink R_O 56 "TextKeeperModel" "other" "[B",
  .fieldLink R_O 59 "TextKeeperModel" "piece" "[B",
  .methodLink R_O 148 y_O_free,
  .instanceMethod y_O_free,
  .selects R_O y_O_free y_O_free,
  .code y_O_free prog_9_method_12_code 3 (some .int),
  .initialized "java/lang/Throwable",
  .initialized "java/lang/Exception",
  .initialized "java/lang/RuntimeException",
  .initialized "java/util/NoSuchElementException",
  .lays "java/lang/Throwable" "java/lang/Throwable" "cause" "Ljava/lang/Throwable;",
  .lays "java/lang/Throwable" "java/lang/Throwable" "stackTrace" "[Ljava/lang/StackTraceElement;",
  .lays "java/lang/Throwable" "java/lang/Throwable" "suppressedExceptions" "Ljava/util/List;",
  .lays "java/lang/Throwable" "java/lang/Throwable" "detailMessage" "Ljava/lang/String;",
  .lays "java/lang/Throwable" "java/lang/Throwable" "backtrace" "Ljava/lang/Object;",
  .fieldLink "java/lang/Throwable" 198 "java/lang/Throwable" "backtrace" "Ljava/lang/Object;",
  .superclass "java/lang/Throwable" "java/lang/Object",
  .instanceMethod ⟨"java/lang/Throwable","<init>","()V"⟩,
  .code ⟨"java/lang/Throwable","<init>","()V"⟩ prog_18_method_1_code 1 (Option.none : Option Jvm.ClassFile.FieldType),
  .methodLink "java/lang/Throwable" 1 ⟨"java/lang/Object","<init>","()V"⟩,
  .fieldLink "java/lang/Throwable" 13 "java/lang/Throwable" "UNASSIGNED_STACK" "[Ljava/lang/StackTraceElement;",
  .fieldLink "java/lang/Throwable" 20 "java/lang/Throwable" "SUPPRESSED_SENTINEL" "Ljava/util/List;",
  .methodLink "java/lang/Throwable" 27 ⟨"java/lang/Throwable","fillInStackTrace","()Ljava/lang/Throwable;"⟩,
  .instanceMethod ⟨"java/lang/Throwable","fillInStackTrace","()Ljava/lang/Throwable;"⟩,
  .selects "java/util/NoSuchElementException" ⟨"java/lang/Throwable","fillInStackTrace","()Ljava/lang/Throwable;"⟩ ⟨"java/lang/Throwable","fillInStackTrace","()Ljava/lang/Throwable;"⟩,
  .codeSync ⟨"java/lang/Throwable","fillInStackTrace","()Ljava/lang/Throwable;"⟩ prog_18_method_18_code 1 (Option.some (.object "java/lang/Throwable")),
  .methodLink "java/lang/Throwable" 202 ⟨"java/lang/Throwable","fillInStackTrace","(I)Ljava/lang/Throwable;"⟩,
  .instanceMethod ⟨"java/lang/Throwable","fillInStackTrace","(I)Ljava/lang/Throwable;"⟩,
  .instantiable "java/lang/Throwable" 6,
  .native ⟨"java/lang/Throwable","fillInStackTrace","(I)Ljava/lang/Throwable;"⟩]
def w0_6 : List Cond := [.instanceMethod ⟨"java/lang/RuntimeException","<init>","()V"⟩,
  .code ⟨"java/lang/RuntimeException","<init>","()V"⟩ prog_16_method_1_code 1 (Option.none : Option Jvm.ClassFile.FieldType),
  .methodLink "java/lang/RuntimeException" 1 ⟨"java/lang/Exception","<init>","()V"⟩,
  .instanceMethod ⟨"java/lang/Exception","<init>","()V"⟩,
  .code ⟨"java/lang/Exception","<init>","()V"⟩ prog_11_method_1_code 1 (Option.none : Option Jvm.ClassFile.FieldType),
  .methodLink "java/lang/Exception" 1 ⟨"java/lang/Throwable","<init>","()V"⟩,
  .fieldLink "java/lang/Throwable" 7 "java/lang/Throwable" "cause" "Ljava/lang/Throwable;",
  .fieldLink "java/lang/Throwable" 17 "java/lang/Throwable" "stackTrace" "[Ljava/lang/StackTraceElement;",
  .fieldLink "java/lang/Throwable" 24 "java/lang/Throwable" "suppressedExceptions" "Ljava/util/List;",
  .classLink "TextKeeperLaw" 47 "java/util/NoSuchElementException",
  .classLink "TextKeeper" 140 "java/util/NoSuchElementException",
  .instantiable "java/util/NoSuchElementException" 6,
  .selects "java/util/NoSuchElementException" ⟨"java/lang/Throwable","fillInStackTrace","(I)Ljava/lang/Throwable;"⟩ ⟨"java/lang/Throwable","fillInStackTrace","(I)Ljava/lang/Throwable;"⟩,
  .lays "java/util/NoSuchElementException" "java/lang/Throwable" "cause" "Ljava/lang/Throwable;",
  .lays "java/util/NoSuchElementException" "java/lang/Throwable" "stackTrace" "[Ljava/lang/StackTraceElement;",
  .lays "java/util/NoSuchElementException" "java/lang/Throwable" "suppressedExceptions" "Ljava/util/List;",
  .lays "java/util/NoSuchElementException" "java/lang/Throwable" "detailMessage" "Ljava/lang/String;",
  .lays "java/util/NoSuchElementException" "java/lang/Throwable" "backtrace" "Ljava/lang/Object;",
  .methodLink "TextKeeper" 142 ⟨"java/util/NoSuchElementException","<init>","()V"⟩,
  .instanceMethod ⟨"java/util/NoSuchElementException","<init>","()V"⟩,
  .code ⟨"java/util/NoSuchElementException","<init>","()V"⟩ prog_20_method_1_code 1 (Option.none : Option Jvm.ClassFile.FieldType),
  .methodLink "java/util/NoSuchElementException" 1 ⟨"java/lang/RuntimeException","<init>","()V"⟩,
  .lays "java/util/NoSuchElementException" "java/lang/Throwable" "depth" "I",
  .superclass "java/util/NoSuchElementException" "java/lang/RuntimeException",
  .methodLink R_L 44 y_K_about,
  .instanceMethod y_K_about,
  .selects R_K y_K_about y_K_about,
  .code y_K_about prog_1_method_11_code 4 (some .int),
  .methodLink R_L 51 y_K_revision,
  .instanceMethod y_K_revision,
  .selects R_K y_K_revision y_K_revision,
  .code y_K_revision prog_1_method_12_code 7 (some .int),
  .methodLink R_L 7 y_K_feed,
  .instanceMethod y_K_feed,
  .selects R_K y_K_feed y_K_feed,
  .code y_K_feed prog_1_method_2_code 6 (some .boolean),
  .methodLink R_L 15 y_K_end,
  .instanceMethod y_K_end,
  .selects R_K y_K_end y_K_end,
  .code y_K_end prog_1_method_3_code 2 (some .boolean)]
def w0_7 : List Cond := [.methodLink R_L 19 y_K_make,
  .instanceMethod y_K_make,
  .selects R_K y_K_make y_K_make,
  .code y_K_make prog_1_method_4_code 2 (some .int),
  .methodLink R_L 23 y_K_commit,
  .instanceMethod y_K_commit,
  .selects R_K y_K_commit y_K_commit,
  .code y_K_commit prog_1_method_5_code 7 (some .int),
  .methodLink R_L 27 y_K_fetch,
  .instanceMethod y_K_fetch,
  .selects R_K y_K_fetch y_K_fetch,
  .code y_K_fetch prog_1_method_6_code 5 (some .int),
  .methodLink R_L 30 y_K_out,
  .instanceMethod y_K_out,
  .selects R_K y_K_out y_K_out,
  .code y_K_out prog_1_method_7_code 2 (some .int),
  .methodLink R_L 34 y_K_steps,
  .instanceMethod y_K_steps,
  .selects R_K y_K_steps y_K_steps,
  .code y_K_steps prog_1_method_8_code 1 (some .int),
  .methodLink R_L 37 y_K_trim,
  .instanceMethod y_K_trim,
  .selects R_K y_K_trim y_K_trim,
  .code y_K_trim prog_1_method_9_code 4 (some .boolean),
  .methodLink R_L 41 y_K_dropDocument,
  .instanceMethod y_K_dropDocument,
  .selects R_K y_K_dropDocument y_K_dropDocument,
  .code y_K_dropDocument prog_1_method_10_code 2 (some .boolean),
  .methodLink R_L 55 y_K_pieceByte,
  .instanceMethod y_K_pieceByte,
  .selects R_K y_K_pieceByte y_K_pieceByte,
  .code y_K_pieceByte prog_1_method_13_code 5 (some .int),
  .methodLink R_L 58 y_K_damage,
  .instanceMethod y_K_damage,
  .selects R_K y_K_damage y_K_damage,
  .code y_K_damage prog_1_method_14_code 6 (some .boolean),
  .methodLink R_L 62 y_K_verify,
  .instanceMethod y_K_verify,
  .selects R_K y_K_verify y_K_verify,
  .code y_K_verify prog_1_method_15_code 4 (some .int)]
def w0_8 : List Cond := [.methodLink R_L 65 y_K_common,
  .instanceMethod y_K_common,
  .selects R_K y_K_common y_K_common,
  .code y_K_common prog_1_method_16_code 9 (some .int),
  .methodLink R_L 69 y_K_freeBlocks,
  .instanceMethod y_K_freeBlocks,
  .selects R_K y_K_freeBlocks y_K_freeBlocks,
  .code y_K_freeBlocks prog_1_method_17_code 1 (some .int),
  .methodLink R_L 72 y_K_cutAfter,
  .instanceMethod y_K_cutAfter,
  .selects R_K y_K_cutAfter y_K_cutAfter,
  .code y_K_cutAfter prog_1_method_18_code 2 (some .boolean),
  .codeWith y_L_feed method_3_code 8 (some .int) [(0, 23, 26, 13)],
  .methodLink R_L 79 y_L_feed,
  .static y_L_feed,
  .initialized R_L,
  .methodLink R_L 84 y_O_feed,
  .instanceMethod y_O_feed,
  .selects R_O y_O_feed y_O_feed,
  .code y_O_feed prog_9_method_5_code 8 (some .boolean),
  .methodLink R_L 85 y_O_thrown,
  .instanceMethod y_O_thrown,
  .selects R_O y_O_thrown y_O_thrown,
  .code y_O_thrown prog_9_method_2_code 1 (some .int),
  .codeWith y_L_end method_4_code 4 (some .int) [(0, 16, 19, 13)],
  .methodLink R_L 88 y_L_end,
  .static y_L_end,
  .methodLink R_L 91 y_O_end,
  .instanceMethod y_O_end,
  .selects R_O y_O_end y_O_end,
  .code y_O_end prog_9_method_6_code 2 (some .boolean),
  .codeWith y_L_make method_5_code 3 (some .int) [(0, 8, 11, 13)],
  .methodLink R_L 92 y_L_make,
  .static y_L_make,
  .methodLink R_L 95 y_O_make,
  .instanceMethod y_O_make,
  .selects R_O y_O_make y_O_make,
  .code y_O_make prog_9_method_16_code 1 (some .int),
  .codeWith y_L_commit method_6_code 5 (some .int) [(0, 10, 13, 13)],
  .methodLink R_L 96 y_L_commit]
def w0_9 : List Cond := [.static y_L_commit,
  .methodLink R_L 99 y_O_commit,
  .instanceMethod y_O_commit,
  .selects R_O y_O_commit y_O_commit,
  .code y_O_commit prog_9_method_27_code 7 (some .int),
  .codeWith y_L_fetch method_7_code 5 (some .int) [(0, 10, 13, 13)],
  .methodLink R_L 100 y_L_fetch,
  .static y_L_fetch,
  .methodLink R_L 102 y_O_fetch,
  .instanceMethod y_O_fetch,
  .selects R_O y_O_fetch y_O_fetch,
  .code y_O_fetch prog_9_method_28_code 4 (some .int),
  .codeWith y_L_out method_8_code 4 (some .int) [(0, 9, 12, 13)],
  .methodLink R_L 103 y_L_out,
  .static y_L_out,
  .methodLink R_L 105 y_O_out,
  .instanceMethod y_O_out,
  .selects R_O y_O_out y_O_out,
  .code y_O_out prog_9_method_29_code 2 (some .int),
  .codeWith y_L_steps method_9_code 3 (some .int) [(0, 8, 11, 13)],
  .methodLink R_L 106 y_L_steps,
  .static y_L_steps,
  .methodLink R_L 108 y_O_steps,
  .instanceMethod y_O_steps,
  .selects R_O y_O_steps y_O_steps,
  .code y_O_steps prog_9_method_30_code 1 (some .int),
  .codeWith y_L_trim method_10_code 5 (some .int) [(0, 17, 20, 13)],
  .methodLink R_L 109 y_L_trim,
  .static y_L_trim,
  .methodLink R_L 111 y_O_trim,
  .instanceMethod y_O_trim,
  .selects R_O y_O_trim y_O_trim,
  .code y_O_trim prog_9_method_31_code 3 (some .boolean),
  .codeWith y_L_dropDocument method_11_code 4 (some .int) [(0, 16, 19, 13)],
  .methodLink R_L 112 y_L_dropDocument,
  .static y_L_dropDocument,
  .methodLink R_L 114 y_O_dropDocument,
  .instanceMethod y_O_dropDocument,
  .selects R_O y_O_dropDocument y_O_dropDocument,
  .code y_O_dropDocument prog_9_method_32_code 2 (some .boolean)]
def w0_10 : List Cond := [.codeWith y_L_about method_12_code 5 (some .int) [(0, 10, 13, 47), (0, 10, 17, 49), (0, 10, 21, 13)],
  .methodLink R_L 115 y_L_about,
  .static y_L_about,
  .methodLink R_L 117 y_O_about,
  .instanceMethod y_O_about,
  .selects R_O y_O_about y_O_about,
  .code y_O_about prog_9_method_33_code 3 (some .int),
  .codeWith y_L_revision method_13_code 6 (some .int) [(0, 12, 15, 47), (0, 12, 19, 49), (0, 12, 23, 13)],
  .methodLink R_L 118 y_L_revision,
  .static y_L_revision,
  .methodLink R_L 121 y_O_revision,
  .instanceMethod y_O_revision,
  .selects R_O y_O_revision y_O_revision,
  .code y_O_revision prog_9_method_34_code 5 (some .int),
  .codeWith y_L_pieceByte method_14_code 6 (some .int) [(0, 12, 15, 13)],
  .methodLink R_L 122 y_L_pieceByte,
  .static y_L_pieceByte,
  .methodLink R_L 124 y_O_pieceByte,
  .instanceMethod y_O_pieceByte,
  .selects R_O y_O_pieceByte y_O_pieceByte,
  .code y_O_pieceByte prog_9_method_35_code 5 (some .int),
  .codeWith y_L_damage method_15_code 7 (some .int) [(0, 21, 24, 13)],
  .methodLink R_L 125 y_L_damage,
  .static y_L_damage,
  .methodLink R_L 128 y_O_damage,
  .instanceMethod y_O_damage,
  .selects R_O y_O_damage y_O_damage,
  .code y_O_damage prog_9_method_36_code 6 (some .boolean),
  .codeWith y_L_verify method_16_code 4 (some .int) [(0, 9, 12, 13)],
  .methodLink R_L 129 y_L_verify,
  .static y_L_verify,
  .methodLink R_L 131 y_O_verify,
  .instanceMethod y_O_verify,
  .selects R_O y_O_verify y_O_verify,
  .code y_O_verify prog_9_method_37_code 3 (some .int),
  .codeWith y_L_common method_17_code 7 (some .int) [(0, 14, 17, 13)],
  .methodLink R_L 132 y_L_common,
  .static y_L_common,
  .methodLink R_L 134 y_O_common,
  .instanceMethod y_O_common]
def w0_11 : List Cond := [.selects R_O y_O_common y_O_common,
  .code y_O_common prog_9_method_38_code 8 (some .int),
  .codeWith y_L_freeBlocks method_18_code 3 (some .int) [(0, 8, 11, 13)],
  .methodLink R_L 135 y_L_freeBlocks,
  .static y_L_freeBlocks,
  .methodLink R_L 137 y_O_freeBlocks,
  .instanceMethod y_O_freeBlocks,
  .selects R_O y_O_freeBlocks y_O_freeBlocks,
  .code y_O_freeBlocks prog_9_method_39_code 1 (some .int),
  .codeWith y_L_cutAfter method_19_code 4 (some .int) [(0, 16, 19, 13)],
  .methodLink R_L 138 y_L_cutAfter,
  .static y_L_cutAfter,
  .methodLink R_L 140 y_O_cutAfter,
  .instanceMethod y_O_cutAfter,
  .selects R_O y_O_cutAfter y_O_cutAfter,
  .code y_O_cutAfter prog_9_method_40_code 2 (some .boolean),
  .methodLink R_L 141 y_K_start,
  .instanceMethod y_K_start,
  .selects R_K y_K_start y_K_start,
  .code y_K_start prog_1_method_19_code 1 (some .boolean),
  .methodLink R_L 145 y_O_start,
  .instanceMethod y_O_start,
  .selects R_O y_O_start y_O_start,
  .code y_O_start prog_9_method_41_code 2 (some .boolean),
  .methodLink R_L 146 y_K_isDown,
  .instanceMethod y_K_isDown,
  .selects R_K y_K_isDown y_K_isDown,
  .code y_K_isDown prog_1_method_20_code 1 (some .boolean),
  .methodLink R_L 149 y_O_isDown,
  .instanceMethod y_O_isDown,
  .selects R_O y_O_isDown y_O_isDown,
  .code y_O_isDown prog_9_method_42_code 1 (some .boolean),
  .classLink R_L 8 R_K,
  .instantiable R_K 9,
  .code y_K_init prog_1_method_1_code 1 none,
  .methodLink R_L 75 y_K_init,
  .instanceMethod y_K_init,
  .classLink R_L 76 R_O,
  .instantiable R_O 27,
  .code y_O_init prog_9_method_1_code 2 none]
def w0_12 : List Cond := [.methodLink R_L 78 y_O_init,
  .instanceMethod y_O_init,
  .arrayClass .long]
def w0 : List Cond := w0_0 ++ (w0_1 ++ (w0_2 ++ (w0_3 ++ (w0_4 ++ (w0_5 ++ (w0_6 ++ (w0_7 ++ (w0_8 ++ (w0_9 ++ (w0_10 ++ (w0_11 ++ (w0_12))))))))))))
def nw0 : List Cond := [.fieldLinkNest R_K 180 "TextKeeper$Power" "down" "Z" "TextKeeper",
  .declares ⟨"java/lang/RuntimeException","<init>","()V"⟩,
  .declares ⟨"java/lang/Exception","<init>","()V"⟩,
  .declares ⟨"java/lang/Throwable","<init>","()V"⟩,
  .castable "java/util/NoSuchElementException" "java/util/NoSuchElementException"]
def ao0 : List String := ["TextKeeper$Document", "TextKeeper$Revision"]
def nw_kind : Cond → Bool
  | .fieldLinkNest .. => true
  | .methodLinkNest .. => true
  | .declares .. => true
  | .castable .. => true
  | _ => false
theorem nw0_kind : ∀ w ∈ nw0, nw_kind w = true := by decide +kernel
theorem nw0_tab : ∀ w ∈ nw0, w.onTables = true := by decide +kernel
theorem gd_places {big : List Cond} (ws : List Cond) (ps : List Nat) (hp : ws = ps.filterMap (fun i => big[i]?)) (h : ws.all goodWord = true) : GoodIn big ws := by
  intro w hw
  have h1 := List.all_eq_true.mp h w hw
  rw [hp] at hw
  obtain ⟨i, -, hi⟩ := List.mem_filterMap.mp hw
  exact ⟨List.mem_of_getElem? hi, good_of_word h1⟩
theorem gd_both {big a b : List Cond} (ha : GoodIn big a) (hb : GoodIn big b) : GoodIn big (a ++ b) := fun w h => (List.mem_append.mp h).elim (ha w) (hb w)
set_option maxRecDepth 100000 in
set_option maxHeartbeats 4000000 in
theorem w0_ok_0 : GoodIn lw_tbl w0_0 := gd_places _ [141, 143, 145, 147, 149, 151, 153, 155, 157, 75, 77, 93, 95, 97, 99, 110, 112, 125, 127, 129, 297, 299, 301, 439, 441, 443, 654, 656, 658, 660, 662, 664, 666, 668, 670, 672, 674, 676, 678, 680] rfl (by decide +kernel)
set_option maxRecDepth 100000 in
set_option maxHeartbeats 4000000 in
theorem w0_ok_1 : GoodIn lw_tbl w0_1 := gd_places _ [682, 684, 686, 688, 690, 692, 694, 696, 698, 700, 702, 704, 706, 120, 60, 61, 121, 123, 124, 69, 80, 70, 71, 107, 108, 109, 86, 87, 65, 37, 68, 88, 67, 89, 90, 91, 92, 59, 62, 132] rfl (by decide +kernel)
set_option maxRecDepth 100000 in
set_option maxHeartbeats 4000000 in
theorem w0_ok_2 : GoodIn lw_tbl w0_2 := gd_places _ [64, 66, 133, 134, 135, 81, 82, 38, 85, 83, 84, 136, 102, 103, 39, 106, 104, 105, 137, 115, 116, 40, 119, 117, 118, 138, 139, 140, 311, 313, 3, 36, 314, 180, 182, 0, 183, 557, 559, 14] rfl (by decide +kernel)
set_option maxRecDepth 100000 in
set_option maxHeartbeats 4000000 in
theorem w0_ok_3 : GoodIn lw_tbl w0_3 := gd_places _ [560, 484, 358, 359, 360, 412, 414, 13, 415, 255, 256, 257, 258, 247, 248, 249, 250, 251, 252, 253, 254, 266, 267, 268, 269, 281, 282, 283, 284, 289, 290, 292, 293, 295, 277, 279, 2, 280, 285, 46] rfl (by decide +kernel)
set_option maxRecDepth 100000 in
set_option maxHeartbeats 4000000 in
theorem w0_ok_4 : GoodIn lw_tbl w0_4 := gd_places _ [288, 286, 287, 617, 618, 619, 620, 628, 627, 632, 740, 742, 18, 41, 743, 629, 720, 722, 16, 723, 732, 734, 17, 735, 799, 801, 31, 802, 838, 840, 34, 841, 645, 646, 631, 636, 630, 626, 709, 633] rfl (by decide +kernel)
set_option maxRecDepth 100000 in
set_option maxHeartbeats 4000000 in
theorem w0_ok_5 : GoodIn lw_tbl w0_5 := gd_places _ [710, 634, 635, 711, 637, 638, 639, 640, 642, 644, 647, 649, 787, 789, 29, 790, 42, 43, 44, 52, 196, 198, 200, 202, 204, 205, 206, 207, 208, 209, 210, 212, 214, 215, 218, 219, 220, 222, 223, 224] rfl (by decide +kernel)
set_option maxRecDepth 100000 in
set_option maxHeartbeats 4000000 in
theorem w0_ok_6 : GoodIn lw_tbl w0_6 := gd_places _ [229, 230, 231, 232, 233, 234, 236, 237, 238, 514, 520, 521, 523, 524, 525, 526, 527, 528, 529, 530, 531, 532, 533, 534, 516, 517, 518, 519, 553, 554, 555, 556, 176, 177, 178, 179, 262, 263, 264, 265] rfl (by decide +kernel)
set_option maxRecDepth 100000 in
set_option maxHeartbeats 4000000 in
theorem w0_ok_7 : GoodIn lw_tbl w0_7 := gd_places _ [273, 274, 275, 276, 307, 308, 309, 310, 457, 458, 459, 460, 480, 481, 482, 483, 488, 489, 490, 491, 495, 496, 497, 498, 507, 508, 509, 510, 565, 566, 567, 568, 576, 577, 578, 579, 583, 584, 585, 586] rfl (by decide +kernel)
set_option maxRecDepth 100000 in
set_option maxHeartbeats 4000000 in
theorem w0_ok_8 : GoodIn lw_tbl w0_8 := gd_places _ [594, 595, 596, 597, 606, 607, 608, 609, 613, 614, 615, 616, 174, 172, 173, 35, 716, 717, 718, 719, 712, 713, 714, 715, 261, 259, 260, 724, 725, 726, 727, 272, 270, 271, 728, 729, 730, 731, 306, 304] rfl (by decide +kernel)
set_option maxRecDepth 100000 in
set_option maxHeartbeats 4000000 in
theorem w0_ok_9 : GoodIn lw_tbl w0_9 := gd_places _ [305, 736, 737, 738, 739, 456, 454, 455, 795, 796, 797, 798, 479, 477, 478, 803, 804, 805, 806, 487, 485, 486, 807, 808, 809, 810, 494, 492, 493, 811, 812, 813, 814, 506, 504, 505, 826, 827, 828, 829] rfl (by decide +kernel)
set_option maxRecDepth 100000 in
set_option maxHeartbeats 4000000 in
theorem w0_ok_10 : GoodIn lw_tbl w0_10 := gd_places _ [513, 511, 512, 830, 831, 832, 833, 552, 550, 551, 834, 835, 836, 837, 564, 562, 563, 842, 843, 844, 845, 575, 573, 574, 846, 847, 848, 849, 582, 580, 581, 850, 851, 852, 853, 593, 591, 592, 854, 855] rfl (by decide +kernel)
set_option maxRecDepth 100000 in
set_option maxHeartbeats 4000000 in
theorem w0_ok_11 : GoodIn lw_tbl w0_11 := gd_places _ [856, 857, 605, 603, 604, 858, 859, 860, 861, 612, 610, 611, 862, 863, 864, 865, 160, 161, 162, 163, 866, 867, 868, 869, 168, 169, 170, 171, 870, 871, 872, 873, 54, 55, 58, 56, 57, 621, 622, 625] rfl (by decide +kernel)
set_option maxRecDepth 100000 in
set_option maxHeartbeats 4000000 in
theorem w0_ok_12 : GoodIn lw_tbl w0_12 := gd_places _ [623, 624, 874] rfl (by decide +kernel)
theorem w0_ok : GoodIn lw_tbl w0 := gd_both w0_ok_0 (gd_both w0_ok_1 (gd_both w0_ok_2 (gd_both w0_ok_3 (gd_both w0_ok_4 (gd_both w0_ok_5 (gd_both w0_ok_6 (gd_both w0_ok_7 (gd_both w0_ok_8 (gd_both w0_ok_9 (gd_both w0_ok_10 (gd_both w0_ok_11 (w0_ok_12))))))))))))
theorem w0_good (w : Cond) (h : w ∈ w0) : (w.onTables && w.keeps) = true ∨ ∃ ty, w = .arrayClass ty := (w0_ok w h).2
set_option maxRecDepth 100000 in
theorem in_K : ∀ w ∈ u_ws R_K F_K 9, w ∈ w0 := by decide +kernel
theorem tk_K : ∀ k, k < 9 → parseFieldDescriptor (F_K k).2.2.1 = some (ft_K k) := by decide +kernel
theorem nk_K : ∀ a, a < 9 → ∀ b, b < 9 → a ≠ b → (F_K a).2.1 ≠ (F_K b).2.1 := by decide +kernel
theorem nw_K : ∀ j, j < 9 → defaultValue (ft_K j) = vp_V [.null, .null, .null, .null, .null, .null, .null, .int 0, .int 0] j := by decide +kernel
set_option maxRecDepth 100000 in
theorem in_T : ∀ w ∈ u_ws R_T F_T 2, w ∈ w0 := by decide +kernel
theorem tk_T : ∀ k, k < 2 → parseFieldDescriptor (F_T k).2.2.1 = some (ft_T k) := by decide +kernel
theorem nk_T : ∀ a, a < 2 → ∀ b, b < 2 → a ≠ b → (F_T a).2.1 ≠ (F_T b).2.1 := by decide +kernel
theorem nw_T : ∀ j, j < 2 → defaultValue (ft_T j) = vp_V [.null, .int 0] j := by decide +kernel
set_option maxRecDepth 100000 in
theorem in_M : ∀ w ∈ u_ws R_M F_M 4, w ∈ w0 := by decide +kernel
theorem tk_M : ∀ k, k < 4 → parseFieldDescriptor (F_M k).2.2.1 = some (ft_M k) := by decide +kernel
theorem nk_M : ∀ a, a < 4 → ∀ b, b < 4 → a ≠ b → (F_M a).2.1 ≠ (F_M b).2.1 := by decide +kernel
theorem nw_M : ∀ j, j < 4 → defaultValue (ft_M j) = vp_V [.null, .null, .null, .int 0] j := by decide +kernel
set_option maxRecDepth 100000 in
theorem in_W : ∀ w ∈ u_ws R_W F_W 2, w ∈ w0 := by decide +kernel
theorem tk_W : ∀ k, k < 2 → parseFieldDescriptor (F_W k).2.2.1 = some (ft_W k) := by decide +kernel
theorem nk_W : ∀ a, a < 2 → ∀ b, b < 2 → a ≠ b → (F_W a).2.1 ≠ (F_W b).2.1 := by decide +kernel
theorem nw_W : ∀ j, j < 2 → defaultValue (ft_W j) = vp_V [.null, .int 0] j := by decide +kernel
set_option maxRecDepth 100000 in
theorem in_P : ∀ w ∈ u_ws R_P F_P 3, w ∈ w0 := by decide +kernel
theorem tk_P : ∀ k, k < 3 → parseFieldDescriptor (F_P k).2.2.1 = some (ft_P k) := by decide +kernel
theorem nk_P : ∀ a, a < 3 → ∀ b, b < 3 → a ≠ b → (F_P a).2.1 ≠ (F_P b).2.1 := by decide +kernel
theorem nw_P : ∀ j, j < 3 → defaultValue (ft_P j) = vp_V [.int 0, .int 0, .int 0] j := by decide +kernel
set_option maxRecDepth 100000 in
theorem in_D : ∀ w ∈ u_ws R_D F_D 3, w ∈ w0 := by decide +kernel
theorem tk_D : ∀ k, k < 3 → parseFieldDescriptor (F_D k).2.2.1 = some (ft_D k) := by decide +kernel
theorem nk_D : ∀ a, a < 3 → ∀ b, b < 3 → a ≠ b → (F_D a).2.1 ≠ (F_D b).2.1 := by decide +kernel
theorem nw_D : ∀ j, j < 3 → defaultValue (ft_D j) = vp_V [.null, .int 0, .int 0] j := by decide +kernel
set_option maxRecDepth 100000 in
theorem in_V : ∀ w ∈ u_ws R_V F_V 3, w ∈ w0 := by decide +kernel
theorem tk_V : ∀ k, k < 3 → parseFieldDescriptor (F_V k).2.2.1 = some (ft_V k) := by decide +kernel
theorem nk_V : ∀ a, a < 3 → ∀ b, b < 3 → a ≠ b → (F_V a).2.1 ≠ (F_V b).2.1 := by decide +kernel
theorem nw_V : ∀ j, j < 3 → defaultValue (ft_V j) = vp_V [.null, .int 0, .int 0] j := by decide +kernel
set_option maxRecDepth 100000 in
theorem in_O : ∀ w ∈ u_ws R_O F_O 27, w ∈ w0 := by decide +kernel
theorem tk_O : ∀ k, k < 27 → parseFieldDescriptor (F_O k).2.2.1 = some (ft_O k) := by decide +kernel
theorem nk_O : ∀ a, a < 27 → ∀ b, b < 27 → a ≠ b → (F_O a).2.1 ≠ (F_O b).2.1 := by decide +kernel
theorem nw_O : ∀ j, j < 27 → defaultValue (ft_O j) = vp_V [.int 0, .int 0, .int 0, .null, .int 0, .int 0, .null, .null, .null, .null, .null, .null, .null, .null, .int 0, .null, .int 0, .null, .int 0, .int 0, .null, .int 0, .null, .int 0, .int 0, .int 0, .int 0] j := by decide +kernel
def k_P_init : List Cond := .code y_P_init prog_5_method_1_code 1 none :: w0
def k_T_init : List Cond := .code y_T_init prog_7_method_1_code 1 none :: w0
def k_W_init : List Cond := .code y_W_init prog_4_method_1_code 1 none :: w0
def k_M_init : List Cond := .code y_M_init prog_3_method_1_code 1 none :: w0
def k_K_init : List Cond := .code y_K_init prog_1_method_1_code 1 none :: w0
def k_K_needPower : List Cond := .code y_K_needPower prog_1_method_21_code 1 none :: w0
def k_K_documentAt : List Cond := .code y_K_documentAt prog_1_method_23_code 2 (some (.object "TextKeeper$Document")) :: w0
def k_K_keptRevision : List Cond := .code y_K_keptRevision prog_1_method_24_code 4 (some (.object "TextKeeper$Revision")) :: w0
def k_K_commit : List Cond := .code y_K_commit prog_1_method_5_code 7 (some .int) :: w0
def k_K_fetch : List Cond := .code y_K_fetch prog_1_method_6_code 5 (some .int) :: w0
def k_K_trim : List Cond := .code y_K_trim prog_1_method_9_code 4 (some .boolean) :: w0
def k_K_dropDocument : List Cond := .code y_K_dropDocument prog_1_method_10_code 2 (some .boolean) :: w0
def k_K_pieceByte : List Cond := .code y_K_pieceByte prog_1_method_13_code 5 (some .int) :: w0
def k_K_damage : List Cond := .code y_K_damage prog_1_method_14_code 6 (some .boolean) :: w0
def k_K_verify : List Cond := .code y_K_verify prog_1_method_15_code 4 (some .int) :: w0
def k_K_common : List Cond := .code y_K_common prog_1_method_16_code 9 (some .int) :: w0
def k_T_byteAt : List Cond := .code y_T_byteAt prog_7_method_2_code 2 (some .int) :: w0
def k_K_out : List Cond := .code y_K_out prog_1_method_7_code 2 (some .int) :: w0
def k_K_steps : List Cond := .code y_K_steps prog_1_method_8_code 1 (some .int) :: w0
def k_K_countFree : List Cond := .code y_K_countFree prog_1_method_26_code 6 (some .int) :: w0
def k_K_freeBlocks : List Cond := .code y_K_freeBlocks prog_1_method_17_code 1 (some .int) :: w0
def k_K_start : List Cond := .code y_K_start prog_1_method_19_code 1 (some .boolean) :: w0
def k_K_isDown : List Cond := .code y_K_isDown prog_1_method_20_code 1 (some .boolean) :: w0
def k_T_hasRoom : List Cond := .code y_T_hasRoom prog_7_method_3_code 2 (some .boolean) :: w0
def k_T_addByte : List Cond := .code y_T_addByte prog_7_method_4_code 2 none :: w0
def k_T_addInt : List Cond := .code y_T_addInt prog_7_method_5_code 3 none :: w0
def k_K_feed : List Cond := .code y_K_feed prog_1_method_2_code 6 (some .boolean) :: w0
def k_T_shorten : List Cond := .code y_T_shorten prog_7_method_6_code 2 (some .boolean) :: w0
def k_K_end : List Cond := .code y_K_end prog_1_method_3_code 2 (some .boolean) :: w0
def k_P_lastsFor : List Cond := .code y_P_lastsFor prog_5_method_4_code 2 (some .boolean) :: w0
def k_K_spendWrites : List Cond := .code y_K_spendWrites prog_1_method_22_code 2 none :: w0
def k_D_init : List Cond := .code y_D_init prog_2_method_1_code 1 none :: w0
def k_K_make : List Cond := .code y_K_make prog_1_method_4_code 2 (some .int) :: w0
def k_P_goAfter : List Cond := .code y_P_goAfter prog_5_method_2_code 2 none :: w0
def k_K_cutAfter : List Cond := .code y_K_cutAfter prog_1_method_18_code 2 (some .boolean) :: w0
def k_O_runs : List Cond := .code y_O_runs prog_9_method_3_code 2 (some .boolean) :: w0
def k_O_thrown : List Cond := .code y_O_thrown prog_9_method_2_code 1 (some .int) :: w0
def k_O_isDocument : List Cond := .code y_O_isDocument prog_9_method_7_code 2 (some .boolean) :: w0
def k_O_isAsked : List Cond := .code y_O_isAsked prog_9_method_8_code 3 (some .boolean) :: w0
def k_O_kept : List Cond := .code y_O_kept prog_9_method_9_code 3 (some .int) :: w0
def k_O_writes : List Cond := .code y_O_writes prog_9_method_4_code 2 (some .boolean) :: w0
def k_O_make : List Cond := .code y_O_make prog_9_method_16_code 1 (some .int) :: w0
def k_O_commit : List Cond := .code y_O_commit prog_9_method_27_code 7 (some .int) :: w0
def k_O_fetch : List Cond := .code y_O_fetch prog_9_method_28_code 4 (some .int) :: w0
def k_O_trim : List Cond := .code y_O_trim prog_9_method_31_code 3 (some .boolean) :: w0
def k_O_dropDocument : List Cond := .code y_O_dropDocument prog_9_method_32_code 2 (some .boolean) :: w0
def k_O_pieceByte : List Cond := .code y_O_pieceByte prog_9_method_35_code 5 (some .int) :: w0
def k_O_damage : List Cond := .code y_O_damage prog_9_method_36_code 6 (some .boolean) :: w0
def k_O_common : List Cond := .code y_O_common prog_9_method_38_code 8 (some .int) :: w0
def k_O_about : List Cond := .code y_O_about prog_9_method_33_code 3 (some .int) :: w0
def k_O_revision : List Cond := .code y_O_revision prog_9_method_34_code 5 (some .int) :: w0
def k_O_out : List Cond := .code y_O_out prog_9_method_29_code 2 (some .int) :: w0
def k_O_steps : List Cond := .code y_O_steps prog_9_method_30_code 1 (some .int) :: w0
def k_O_start : List Cond := .code y_O_start prog_9_method_41_code 2 (some .boolean) :: w0
def k_O_isDown : List Cond := .code y_O_isDown prog_9_method_42_code 1 (some .boolean) :: w0
def k_O_end : List Cond := .code y_O_end prog_9_method_6_code 2 (some .boolean) :: w0
def k_O_cutAfter : List Cond := .code y_O_cutAfter prog_9_method_40_code 2 (some .boolean) :: w0
def k_O_init : List Cond := .code y_O_init prog_9_method_1_code 2 none :: w0
def k_O_feed : List Cond := .code y_O_feed prog_9_method_5_code 8 (some .boolean) :: w0
def k_O_free : List Cond := .code y_O_free prog_9_method_12_code 3 (some .int) :: w0
def k_O_freeBlocks : List Cond := .code y_O_freeBlocks prog_9_method_39_code 1 (some .int) :: w0
def k_O_verify : List Cond := .code y_O_verify prog_9_method_37_code 3 (some .int) :: w0
def k_K_about : List Cond := .code y_K_about prog_1_method_11_code 4 (some .int) :: w0
def k_L_about : List Cond := .codeWith y_L_about method_12_code 5 (some .int) [(0, 10, 13, 47), (0, 10, 17, 49), (0, 10, 21, 13)] :: w0
def k_K_revision : List Cond := .code y_K_revision prog_1_method_12_code 7 (some .int) :: w0
def k_L_revision : List Cond := .codeWith y_L_revision method_13_code 6 (some .int) [(0, 12, 15, 47), (0, 12, 19, 49), (0, 12, 23, 13)] :: w0
def k_L_feed : List Cond := .codeWith y_L_feed method_3_code 8 (some .int) [(0, 23, 26, 13)] :: w0
def k_L_end : List Cond := .codeWith y_L_end method_4_code 4 (some .int) [(0, 16, 19, 13)] :: w0
def k_L_make : List Cond := .codeWith y_L_make method_5_code 3 (some .int) [(0, 8, 11, 13)] :: w0
def k_L_commit : List Cond := .codeWith y_L_commit method_6_code 5 (some .int) [(0, 10, 13, 13)] :: w0
def k_L_fetch : List Cond := .codeWith y_L_fetch method_7_code 5 (some .int) [(0, 10, 13, 13)] :: w0
def k_L_out : List Cond := .codeWith y_L_out method_8_code 4 (some .int) [(0, 9, 12, 13)] :: w0
def k_L_steps : List Cond := .codeWith y_L_steps method_9_code 3 (some .int) [(0, 8, 11, 13)] :: w0
def k_L_trim : List Cond := .codeWith y_L_trim method_10_code 5 (some .int) [(0, 17, 20, 13)] :: w0
def k_L_dropDocument : List Cond := .codeWith y_L_dropDocument method_11_code 4 (some .int) [(0, 16, 19, 13)] :: w0
def k_L_pieceByte : List Cond := .codeWith y_L_pieceByte method_14_code 6 (some .int) [(0, 12, 15, 13)] :: w0
def k_L_damage : List Cond := .codeWith y_L_damage method_15_code 7 (some .int) [(0, 21, 24, 13)] :: w0
def k_L_verify : List Cond := .codeWith y_L_verify method_16_code 4 (some .int) [(0, 9, 12, 13)] :: w0
def k_L_common : List Cond := .codeWith y_L_common method_17_code 7 (some .int) [(0, 14, 17, 13)] :: w0
def k_L_freeBlocks : List Cond := .codeWith y_L_freeBlocks method_18_code 3 (some .int) [(0, 8, 11, 13)] :: w0
def k_L_cutAfter : List Cond := .codeWith y_L_cutAfter method_19_code 4 (some .int) [(0, 16, 19, 13)] :: w0
end
section
/-! Own rows beside the kit's: premises and ends of contracts in one word, calls of methods that read only, calls of static methods with an exception table, methods that throw, and their calls. -/
/-- the words of nest mates, of arrays of references: they are no words of the tables' kind, so a contract carries them -/
def nw_ok (U : State) : Prop := (∀ w ∈ nw0, va_Nw w U) ∧ ∀ C ∈ ao0, va_AO C U
def pc_R (D : va_G) (ws : va_W) (tys : List (ClassId × FieldType)) : State → Prop := fun U => va_P D vwCl ws U.heap ∧ va_K D vwCl tys U ∧ nw_ok U
def pc_E (D : va_G) (ws : va_W) (tys : List (ClassId × FieldType)) (sz : Nat) : State → Prop := fun U => U.heap.size = sz ∧ va_P D vwCl ws U.heap ∧ va_K D vwCl tys U ∧ va_D (fun _ => True) ws ∧ nw_ok U
def at_E (D : va_G) (A : Nat → Prop) (ws : va_W) (tys : List (ClassId × FieldType)) (t : State) : Prop := va_P D vwCl ws t.heap ∧ va_K D vwCl tys t ∧ va_D A ws
theorem nw_ok.warm {s U : State} (hW : s.WarmedH U.vm) (h : nw_ok s) : nw_ok U := by
  refine ⟨fun w hw => ?_, fun C hC => ?_⟩
  · have h1 := h.1 w hw
    have h2 := nw0_kind w hw
    cases w <;> first | exact va_Nw.warmF hW h1 | exact va_Nw.warmM hW h1 | exact va_Nw.warmD hW h1 | exact va_Nw.warmC hW h1 | (simp [nw_kind] at h2; done)
  · exact va_AO.moved hW.alike (h.2 C hC)
theorem nw_ok.same {s U : State} (hW : s.vm = U.vm) (h : nw_ok s) : nw_ok U :=
  ⟨fun w hw => va_Nw.same (nw0_tab w hw) hW (h.1 w hw), fun C hC => va_AO.moved (by rw [hW]; exact Vm.Alike.refl _) (h.2 C hC)⟩
section PRE
variable {s : State} {H : Heap} {C : String} {b : Addr} {As : List Value} {D : va_G} {ws : va_W} {tys : List (ClassId × FieldType)}
theorem prV_R (hP : va_P D vwCl ws H) (hK : va_K D vwCl tys s) (hN : nw_ok s) (hrec : ∃ cell : Cell, H[b]? = some cell ∧ cell.vm.isStatics = false ∧ s.vm.findClass C = some cell.cls) : PreV s H C b (va_Pc (.ref b :: As) (pc_R D ws tys)) As :=
  ⟨fun a U g mk q => ⟨q.1, q.2.1, va_K.moved (u := U) (U := U.calling g mk a) (Vm.Alike.refl U.vm) q.2.2.1, nw_ok.same (s := U) (U := U.calling g mk a) rfl q.2.2.2⟩, hrec, fun U hU hW => ⟨rfl, by rw [hU]; exact hP, va_K.moved hW.alike hK, hN.warm hW⟩⟩
theorem prS_R (hP : va_P D vwCl ws H) (hK : va_K D vwCl tys s) (hN : nw_ok s) : PreS s H (va_Pc As (pc_R D ws tys)) As :=
  ⟨fun a U g mk q => ⟨q.1, q.2.1, va_K.moved (u := U) (U := U.calling g mk a) (Vm.Alike.refl U.vm) q.2.2.1, nw_ok.same (s := U) (U := U.calling g mk a) rfl q.2.2.2⟩, fun U hU hW => ⟨rfl, by rw [hU]; exact hP, va_K.moved hW.alike hK, hN.warm hW⟩⟩
theorem prV_E {A : Nat → Prop} (hP : va_P D vwCl ws H) (hK : va_K D vwCl tys s) (hD : va_D A ws) (hN : nw_ok s) (hrec : ∃ cell : Cell, H[b]? = some cell ∧ cell.vm.isStatics = false ∧ s.vm.findClass C = some cell.cls) : PreV s H C b (va_Pc (.ref b :: As) (pc_E D ws tys H.size)) As :=
  ⟨fun a U g mk q => ⟨q.1, q.2.1, q.2.2.1, va_K.moved (u := U) (U := U.calling g mk a) (Vm.Alike.refl U.vm) q.2.2.2.1, q.2.2.2.2.1, nw_ok.same (s := U) (U := U.calling g mk a) rfl q.2.2.2.2.2⟩, hrec, fun U hU hW => ⟨rfl, by rw [hU], by rw [hU]; exact hP, va_K.moved hW.alike hK, hD.weaken (fun _ _ _ _ => trivial), hN.warm hW⟩⟩
theorem prS_E {A : Nat → Prop} (hP : va_P D vwCl ws H) (hK : va_K D vwCl tys s) (hD : va_D A ws) (hN : nw_ok s) : PreS s H (va_Pc As (pc_E D ws tys H.size)) As :=
  ⟨fun a U g mk q => ⟨q.1, q.2.1, q.2.2.1, va_K.moved (u := U) (U := U.calling g mk a) (Vm.Alike.refl U.vm) q.2.2.2.1, q.2.2.2.2.1, nw_ok.same (s := U) (U := U.calling g mk a) rfl q.2.2.2.2.2⟩, fun U hU hW => ⟨rfl, by rw [hU], by rw [hU]; exact hP, va_K.moved hW.alike hK, hD.weaken (fun _ _ _ _ => trivial), hN.warm hW⟩⟩
end PRE
section GD
theorem gd_ok {w : Cond} (h : w ∈ w0) : (w.onTables && w.keeps) = true ∨ ∃ ty, w = .arrayClass ty := (w0_good w h)
theorem gd_w0 : GoodIn w0 w0 := fun w h => ⟨h, gd_ok h⟩
theorem gd_I {y : MethodName} {cd : ByteArray} {mL : Nat} {rt : Option FieldType} (i : Nat) (h : w0[i]? = some (.code y cd mL rt)) : GoodIn w0 (.code y cd mL rt :: w0) := by
  intro w hw
  rcases List.mem_cons.mp hw with rfl | hw
  · exact ⟨List.mem_of_getElem? h, gd_ok (List.mem_of_getElem? h)⟩
  · exact ⟨hw, gd_ok hw⟩
theorem gd_V {own C : String} {idx : Nat} {y : MethodName} {cd : ByteArray} {mL : Nat} {rt : Option FieldType} (i1 i2 i3 i4 i5 : Nat) (h1 : w0[i1]? = some (.methodLink own idx y)) (h2 : w0[i2]? = some (.instanceMethod y)) (h3 : w0[i3]? = some (.selects C y y)) (h4 : w0[i4]? = some (.initialized C)) (h5 : w0[i5]? = some (.code y cd mL rt)) : GoodIn w0 (wsV own idx C y (.code y cd mL rt :: w0)) := by
  intro w hw
  unfold wsV at hw
  rcases List.mem_append.mp hw with hw | hw
  · have hm : w ∈ w0 := by
      simp only [List.mem_cons, List.not_mem_nil, or_false] at hw
      rcases hw with rfl | rfl | rfl | rfl
      · exact List.mem_of_getElem? h1
      · exact List.mem_of_getElem? h2
      · exact List.mem_of_getElem? h3
      · exact List.mem_of_getElem? h4
    exact ⟨hm, gd_ok hm⟩
  · exact gd_I i5 h5 w hw
end GD
section PS
variable {p : Program} {l : Launch} {e : Env} {R : Room} {s : State} {m : MethodId} {args : Array Value} {below : List Frame} {meth : Method} {c : Code} {H : Heap} {locs : List Loc} {cells slots : Nat} {Q : State → Prop}
variable {pc : Nat} {ls : Array Slot} {rest st0 : List Value} {a : Array Value}
theorem ps_i {post : Int32 → Prop} (hr : va_Run p l e R s m args below meth c H locs cells slots 0 0 (F0 m pc ls st0) rest (vp_Si post a) (fun _ => False)) (kk : ∀ r : Int32, post r → W p l e R s m args below meth c H locs cells slots Q (F0 m (pc + 3) ls (.int r :: rest))) : W p l e R s m args below meth c H locs cells slots Q (F0 m pc ls st0) := by
  intro T hT X
  obtain ⟨v, st₀, t, T', L, h0, X', hL, e1, -, ⟨r, hv, hp, hh⟩, st⟩ := hr T hT X
  cases hv
  obtain ⟨t2, a1, b1⟩ := kk r hp T' (by rw [e1, hh, h0]) (Stand.forget X' (fun q h => (hL q h).elim))
  exact ⟨t2, st t2 a1, b1⟩
theorem ps_q {post : Option Nat → Prop} (hr : va_Run p l e R s m args below meth c H locs cells slots 0 0 (F0 m pc ls st0) rest (va_Sq post a) (fun _ => False)) (kk : ∀ r : Option Nat, post r → W p l e R s m args below meth c H locs cells slots Q (F0 m (pc + 3) ls (va_rf r :: rest))) : W p l e R s m args below meth c H locs cells slots Q (F0 m pc ls st0) := by
  intro T hT X
  obtain ⟨v, st₀, t, T', L, h0, X', hL, e1, -, ⟨r, hv, hp, hh⟩, st⟩ := hr T hT X
  cases hv
  obtain ⟨t2, a1, b1⟩ := kk r hp T' (by rw [e1, hh, h0]) (Stand.forget X' (fun q h => (hL q h).elim))
  exact ⟨t2, st t2 a1, b1⟩
theorem ps_v {post : Unit → Prop} (hr : va_Run p l e R s m args below meth c H locs cells slots 0 0 (F0 m pc ls st0) rest (va_Sv post a) (fun _ => False)) (kk : W p l e R s m args below meth c H locs cells slots Q (F0 m (pc + 3) ls rest)) : W p l e R s m args below meth c H locs cells slots Q (F0 m pc ls st0) := by
  intro T hT X
  obtain ⟨v, st₀, t, T', L, h0, X', hL, e1, -, ⟨hv, hp, hh⟩, st⟩ := hr T hT X
  cases hv
  obtain ⟨t2, a1, b1⟩ := kk T' (by rw [e1, hh, h0]) (Stand.forget X' (fun q h => (hL q h).elim))
  exact ⟨t2, st t2 a1, b1⟩
end PS
/-! numbers -/
theorem x_nn {i : Int32} (h : ¬ i < 0) (h2 : ¬ (0 : Int32) ≤ i) : False := h2 (Int32.not_lt.mp h)
theorem x_in {x N : Int32} {n : Nat} (hN : N.toInt = n) (h1 : ¬ x < 0) (h2 : ¬ N ≤ x) : vp_in x n := by
  rw [vp_in_iff]
  have a := Int32.not_lt.mp h1
  have b := Int32.not_le.mp h2
  rw [Int32.le_iff_toInt_le] at a
  rw [Int32.lt_iff_toInt_lt] at b
  have z : (0 : Int32).toInt = 0 := by decide
  omega
theorem x_m1 {i : Int32} (h : ¬ i < 0) (h2 : ¬ (-1 : Int32) ≤ i) : False := by
  have a := Int32.not_lt.mp h
  rw [Int32.le_iff_toInt_le] at a h2
  have z : (0 : Int32).toInt = 0 := by decide
  have z1 : (-1 : Int32).toInt = -1 := by decide
  omega
theorem x_lt256 {k : Nat} (h : ¬ (256 : Int32) ≤ nI k) (hk : k ≤ 256) : k < 256 := by
  rcases Nat.lt_or_ge k 256 with q | q
  · exact q
  · exact absurd (show nI 256 ≤ nI k from nI_le q (by omega)) h
theorem x_geN {j N : Nat} (hN : N < 2 ^ 31) (hj : j ≤ N) (h : nI N ≤ nI j) : j = N := by
  have := (nI_leI hN (by omega)).mp h
  omega
theorem x_ltN {j N : Nat} (hN : N < 2 ^ 31) (hj : j ≤ N) (h : ¬ nI N ≤ nI j) : j < N := by
  rcases Nat.lt_or_ge j N with q | q
  · exact q
  · exact absurd (nI_le q (by omega)) h
section SW
abbrev CSW (R : Room) (s : State) (args : Array Value) (own : String) (index : Nat) (y : MethodName) (bytes : ByteArray) (maxL : Nat) (ret : Option FieldType) (hh : List (Nat × Nat × Nat × Nat)) (ws : List Cond) (rm : Room) (mc ms n : Nat) : Prop :=
  (rm.cells = mc ∧ rm.slots = ms ∧ rm.frames + 1 ≤ R.frames ∧ 8 + (maxL + 11) + rm.locals ≤ R.locals ∧ (∀ w ∈ ws, ∀ (a' : Array Value) (U : State), s.WarmedH U.vm → w.before a' U = true) ∧ Cond.codeWith y bytes maxL ret hh ∈ ws) ∧
  (Cond.codeWith y bytes maxL ret hh).before args s = true ∧ (Cond.initialized y.cls).before args s = true ∧ (y.cls ≠ "java/lang/invoke/MethodHandle" ∧ y.cls ≠ "java/lang/invoke/VarHandle") ∧ (∀ sig, parseMethodDescriptor y.desc = some sig → n = sig.parameters.length) ∧ (Cond.methodLink own index y).before args s = true ∧ (Cond.static y).before args s = true
theorem gd_W {y : MethodName} {cd : ByteArray} {mL : Nat} {rt : Option FieldType} {hh : List (Nat × Nat × Nat × Nat)} (i : Nat) (h : w0[i]? = some (.codeWith y cd mL rt hh)) : GoodIn w0 (.codeWith y cd mL rt hh :: w0) := by
  intro w hw
  rcases List.mem_cons.mp hw with rfl | hw
  · exact ⟨List.mem_of_getElem? h, gd_ok (List.mem_of_getElem? h)⟩
  · exact ⟨hw, gd_ok hw⟩
theorem csw_of {R : Room} {s : State} {args : Array Value} {own : String} {index maxL mc ms : Nat} {y : MethodName} {bytes : ByteArray} {ret : Option FieldType} {hh : List (Nat × Nat × Nat × Nat)} {rm : Room} (n : Nat) (ht : ∀ w ∈ w0, w.before args s = true) (i1 i2 i3 i4 : Nat) (h1 : w0[i1]? = some (.codeWith y bytes maxL ret hh)) (h2 : w0[i2]? = some (.methodLink own index y)) (h3 : w0[i3]? = some (.static y)) (h4 : w0[i4]? = some (.initialized y.cls)) (hrc : rm.cells = mc) (hrs : rm.slots = ms)
    (hd : y.cls ≠ "java/lang/invoke/MethodHandle" ∧ y.cls ≠ "java/lang/invoke/VarHandle" ∧ (parseMethodDescriptor y.desc).map (fun d => d.parameters.length) = some n) (hR : rm.frames + 1 ≤ R.frames ∧ 8 + (maxL + 11) + rm.locals ≤ R.locals) : CSW R s args own index y bytes maxL ret hh (.codeWith y bytes maxL ret hh :: w0) rm mc ms n := by
  refine ⟨⟨hrc, hrs, hR.1, hR.2, pay_in ht (gd_W i1 h1), List.mem_cons_self⟩, ht _ (List.mem_of_getElem? h1), ht _ (List.mem_of_getElem? h4), ⟨hd.1, hd.2.1⟩, fun sig h => ?_, ht _ (List.mem_of_getElem? h2), ht _ (List.mem_of_getElem? h3)⟩
  have h2 := hd.2.2
  rw [h] at h2
  exact (Option.some.inj h2).symm
variable {p : Program} {l : Launch} {e : Env} {R : Room} {s : State} {m : MethodId} {args : Array Value} {below : List Frame} {meth : Method} {c : Code} {H : Heap} {locs : List Loc} {cells slots : Nat}
theorem va_runSW {y : MethodName} {bytes cc : ByteArray} {maxL nL mc ms n index : Nat} {ret : Option FieldType} {hh : List (Nat × Nat × Nat × Nat)} {ws : List Cond} {rm : Room} {Pc : Array Value → State → Prop} {Qc : Array Value → State → Outcome → State → Prop} {free : Addr → Prop} {Ts : List Cond} {own : String} {As rest : List Value} {g : JFrame}
    (S : CallFix p m c cc nL s args Ts own) (hM : Met l y ws rm Pc Qc mc ms free) (cw : CSW R s args own index y bytes maxL ret hh ws rm mc ms n) (hp : PreS s H Pc As)
    (hg : g.method = m) (hn : As.length = n) (hsize : g.locals.size = nL) (hstack : g.stack = As.reverse ++ rest) (hW : 2 * g.monitorRoom + (rest.map fun v => v.category).sum ≤ 8) (hdg : decode cc g.pc = .ok (.invokestatic index, 3)) (hf : cells + mc ≤ R.cells ∧ slots + ms ≤ R.slots) :
    va_Run p l e R s m args below meth c H locs cells slots mc ms g rest (Qc As.toArray) (free) := by
  obtain ⟨⟨hrc, hrs, hfr, hlo, hws, hcw⟩, hcode, hini, hy, hlen, hl, hst⟩ := cw
  have hK : Back l R p e below s args y 3 8 (PreOf R mc ms Pc) (PostOf Qc mc ms free) := va_backW (hh := hh) (bytes := bytes) (maxL := maxL) (ret := ret) hM hp.1 hrc hrs hfr hlo hws hcw (fun a' U hW => word_at hW (Or.inl (by first | rfl | simp [Cond.onTables, Cond.keeps, Cond.steady])) hini)
  obtain ⟨hx, hb, hml, ho, -⟩ := S
  intro T hT X
  obtain ⟨mk, methM, cM, hnamed, hmethM, -, -, -, -, -, -, hsigM⟩ := Cond.codeWith_spec hcode
  have hstatic : methM.isStatic = true := Cond.static_spec hnamed hmethM hst
  obtain ⟨kP, hkP, -⟩ := className_of_methodNamed hnamed
  have hinitP : kP.init = .initialized := Cond.initialized_spec (findClass_of_methodNamed hnamed) hkP hini
  obtain ⟨vm₁, X₁, hstep₁⟩ := X.invokestatic hx ho hl hnamed hmethM hstatic hkP hinitP hy (g := g) hg (argsL := As) (rest := rest) (hn.trans (hlen _ hsigM)) hstack (by rw [hb]; exact hdg)
  obtain ⟨v, ⟨U', l2, c2, s2⟩, X', hpost, hsteps⟩ := hK m meth c ⟨T.setVm vm₁, locs, cells, slots⟩ { g with stack := rest } (.invokestatic index) mk As.toArray X₁ hg (hsize.trans hml.symm) (by rw [hb]; exact hdg) hW (X₁.named hnamed) ⟨hf.1, hf.2, hp.2 (T.setVm vm₁) hT X₁.warmed⟩
  obtain ⟨g', mk', t, L, e1, e2, hq, h1, hL, h2, h3⟩ := hpost
  dsimp only [Pt.U, Pt.locs, Pt.cells, Pt.slots] at X' e1 e2 h1 h2 h3 hsteps
  subst h1; subst h2; subst h3
  exact ⟨v, (T.setVm vm₁).calling g' mk' As.toArray, t, U', L, hT, X', hL, e1, e2, hq, fun target h => hstep₁ _ fun acts => by rw [doInvoke_state]; exact hsteps.trans h⟩
end SW
theorem x_fill {g : Nat → Int32} {j : Nat} (hj : j < 512) (h : ∀ i, i < j → g i = (-1)) : ∀ i, i < j + 1 → upd g (Int32.toNatClampNeg (nI j)) (vp_nar .short (-1)) i = (-1) := by
  intro i hi
  rw [nI_clamp (by omega)]
  by_cases e : i = j
  · subst e; rw [pk_us]; decide
  · rw [pk_un e]; exact h i (by omega)
theorem x_up0 {f : Nat → Int64} {x : Int64} : vp_updL f (Int32.toNatClampNeg 0) x 0 = x := by
  rw [sb_cl0]; exact if_pos rfl
theorem x_L6 {L : Nat} (hL : L ≤ 6) (h : ¬ (Int32.ofNat L - 6 : Int32) < 0) : L = 6 := by
  have q : ∀ L, L < 7 → ¬ (Int32.ofNat L - 6 : Int32) < 0 → L = 6 := by decide +kernel
  exact q L (by omega) h
theorem va_S.grow {A : Nat → Prop} {H0 H H1 : Heap} {locs : List Loc} (h : va_S A H0 H locs) (hz : H.size ≤ H1.size) (hk : ∀ q : Nat, q < H.size → H1[q]? = H[q]?) : va_S A H0 H1 locs :=
  ⟨Nat.le_trans h.1 hz, fun q h1 h2 => (hk q (Nat.lt_of_lt_of_le h1 h.1)).trans (h.2.1 q h1 h2), h.2.2⟩
end
section
set_option maxHeartbeats 4000000 in
set_option maxRecDepth 100000 in
theorem c_Power_init (l : Launch) (dC : Nat → ClassId) (dI : Nat → Nat → Nat) (sz : Nat) (h0 : Nat)  : Met l y_P_init k_P_init ({ frames := 1, cells := 0, slots := 0, locals := 12 } : Room) (va_Pc [.ref h0] (pc_E (dC, dI) [(h0, .inr (4, [.int 0, .int 0, .int 0]))] [] sz)) (va_Qv (fun (_ : Unit) => True) (fun (_ : Unit) t => at_E (dC, dI) (va_A [(h0, .inr (4, [.int 0, .int 0, .int 0]))] sz) [(h0, .inr (4, [.int 0, .int 0, .int 0]))] [] t) (va_A [(h0, .inr (4, [.int 0, .int 0, .int 0]))] sz)) 0 0 (va_A [(h0, .inr (4, [.int 0, .int 0, .int 0]))] sz) := by
  refine Met.ofW (cc := prog_5_method_1_code) (maxL := 1) (ret := none) (by decide) rfl ?_
  intro p e s m args below meth c s₁ B hml hv
  obtain ⟨rfl, hsz, hP, hK, hD0, hN⟩ := hv
  have hx := B.exec
  have hb := B.bytes
  have hr := B.returns
  have hts := atoms_spec (ws := k_P_init) B.pre
  have hw0 : ∀ w ∈ w0, w.before _ s = true := fun w h => hts w (List.mem_cons_of_mem _ h)
  have hown : s.vm.findClass R_P = some m.cls := findClass_of_methodNamed B.named
  have hlocks := B.notSynchronized
  have hin : meth.name = "<init>" := (name_of_methodNamed B.named B.method).1
  subst hsz
  have hD := hD0.self (sz := s.heap.size)
  generalize hAe : va_A [(h0, .inr (4, [.int 0, .int 0, .int 0]))] s.heap.size = A at hD ⊢
  have hA : ∀ q : Nat, s.heap.size ≤ q → A q := fun q h => by rw [← hAe]; exact Or.inr h
  have hS : va_S A s.heap s.heap [] := va_S.rf
  have hP : va_P (dC, dI) vwCl [(h0, .inr (4, [.int 0, .int 0, .int 0]))] s.heap := hP
  have hl := lv_entry ([.ref h0]) (n := 1) (Nat.le_of_ble_eq_true rfl)
  rw [lg_entry_eq]
  generalize (lg_sl ([.ref h0]) ++ List.replicate (1 - (lg_sl ([.ref h0])).length) Slot.unset).toArray = ls at hl ⊢
  have hl : lv_has ls 1 [(0, .ref h0)] := hl
  refine lv_aload_n hx hb d_P_init_0 rfl (lv_at hl 0 rfl) ?_
  refine W.objInit hx hb hown (hw0 (.methodLink R_P 1 objectInit) (List.mem_of_getElem? (i := 53) rfl)) (hw0 (.instanceMethod objectInit) (List.mem_of_getElem? (i := 54) rfl)) (hw0 (.code objectInit ⟨#[0xb1]⟩ 1 none) (List.mem_of_getElem? (i := 55) rfl)) rfl (by rw [hml]; exact hl.1) rfl d_P_init_1 (Nat.le_of_ble_eq_true rfl) (Nat.le_of_ble_eq_true rfl) ?_
  refine W.eq (g2 := F0 m 4 ls []) rfl ?_
  refine lv_aload_n hx hb d_P_init_4 rfl (lv_at hl 0 rfl) ?_
  refine lv_iconst (v := 0) hx hb d_P_init_5 (by decide) ?_
  refine va_put (D := (dC, dI)) (ci := 4) (v := .int 0) (ty := .boolean) (C := R_P) (T := F_P) (N := 3) hx hb hw0 in_P ft_P tk_P nk_P hown hK hP hD hS 0 rfl rfl 0 (by decide) (hw0 (.fieldLink R_P 7 "TextKeeper$Power" "down" "Z") (List.mem_of_getElem? (i := 56) rfl)) (fun _ h9 => h9) rfl (by decide +kernel) rfl rfl (Nat.le_of_ble_eq_true rfl) d_P_init_6 (fun H locs hP hD hS => ?_)
  replace hP : va_P (dC, dI) vwCl [(h0, .inr (4, [.int 0, .int 0, .int 0]))] H := hP
  replace hD : va_D A [(h0, .inr (4, [.int 0, .int 0, .int 0]))] := hD
  refine lv_aload_n hx hb d_P_init_9 rfl (lv_at hl 0 rfl) ?_
  refine lv_iconst (v := 0) hx hb d_P_init_10 (by decide) ?_
  refine va_put (D := (dC, dI)) (ci := 4) (v := .int 0) (ty := .boolean) (C := R_P) (T := F_P) (N := 3) hx hb hw0 in_P ft_P tk_P nk_P hown hK hP hD hS 0 rfl rfl 1 (by decide) (hw0 (.fieldLink R_P 13 "TextKeeper$Power" "going" "Z") (List.mem_of_getElem? (i := 57) rfl)) (fun _ h9 => h9) rfl (by decide +kernel) rfl rfl (Nat.le_of_ble_eq_true rfl) d_P_init_11 (fun H locs hP hD hS => ?_)
  replace hP : va_P (dC, dI) vwCl [(h0, .inr (4, [.int 0, .int 0, .int 0]))] H := hP
  replace hD : va_D A [(h0, .inr (4, [.int 0, .int 0, .int 0]))] := hD
  refine lv_aload_n hx hb d_P_init_14 rfl (lv_at hl 0 rfl) ?_
  refine lv_iconst (v := 0) hx hb d_P_init_15 (by decide) ?_
  refine va_put (D := (dC, dI)) (ci := 4) (v := .int 0) (ty := .int) (C := R_P) (T := F_P) (N := 3) hx hb hw0 in_P ft_P tk_P nk_P hown hK hP hD hS 0 rfl rfl 2 (by decide) (hw0 (.fieldLink R_P 16 "TextKeeper$Power" "writesLeft" "I") (List.mem_of_getElem? (i := 58) rfl)) (fun _ h9 => h9) rfl (by decide +kernel) rfl rfl (Nat.le_of_ble_eq_true rfl) d_P_init_16 (fun H locs hP hD hS => ?_)
  replace hP : va_P (dC, dI) vwCl [(h0, .inr (4, [.int 0, .int 0, .int 0]))] H := hP
  replace hD : va_D A [(h0, .inr (4, [.int 0, .int 0, .int 0]))] := hD
  have hP9 := hP.sub (ws' := [(h0, .inr (4, [.int 0, .int 0, .int 0]))]) [0] rfl
  have hD9 := hD.sub (ws' := [(h0, .inr (4, [.int 0, .int 0, .int 0]))]) [0] (by decide) rfl
  have hK9 := hK.sub (tys' := []) [] rfl
  exact W.vret hx hb hr (fun t ht hW => ⟨⟨(), rfl, trivial, by rw [ht]; exact hP9, va_K.moved hW.alike hK9, hD9⟩, hS.F ht⟩) hS.2.2 d_P_init_19
set_option maxHeartbeats 4000000 in
set_option maxRecDepth 100000 in
theorem c_Text_init (l : Launch) (dC : Nat → ClassId) (dI : Nat → Nat → Nat) (sz : Nat) (h0 : Nat)  : Met l y_T_init k_T_init ({ frames := 1, cells := 1, slots := 256, locals := 12 } : Room) (va_Pc [.ref h0] (pc_E (dC, dI) [(h0, .inr (1, [.null, .int 0]))] [] sz)) (va_Qv (fun (_ : Unit) => True) (fun (_ : Unit) t => ∃ (q1 : Nat) (cB : ClassId), at_E (dC, dI) (va_A [(h0, .inr (1, [.null, .int 0]))] sz) [(h0, .inr (1, [.ref q1, .int 0])), (q1, .inl (cB, 256, .inl (fun _ => 0)))] [(cB, .byte)] t) (va_A [(h0, .inr (1, [.null, .int 0]))] sz)) 1 256 (va_A [(h0, .inr (1, [.null, .int 0]))] sz) := by
  refine Met.ofW (cc := prog_7_method_1_code) (maxL := 1) (ret := none) (by decide) rfl ?_
  intro p e s m args below meth c s₁ B hml hv
  obtain ⟨rfl, hsz, hP, hK, hD0, hN⟩ := hv
  have hx := B.exec
  have hb := B.bytes
  have hr := B.returns
  have hts := atoms_spec (ws := k_T_init) B.pre
  have hw0 : ∀ w ∈ w0, w.before _ s = true := fun w h => hts w (List.mem_cons_of_mem _ h)
  have hown : s.vm.findClass R_T = some m.cls := findClass_of_methodNamed B.named
  have hlocks := B.notSynchronized
  have hin : meth.name = "<init>" := (name_of_methodNamed B.named B.method).1
  subst hsz
  have hD := hD0.self (sz := s.heap.size)
  generalize hAe : va_A [(h0, .inr (1, [.null, .int 0]))] s.heap.size = A at hD ⊢
  have hA : ∀ q : Nat, s.heap.size ≤ q → A q := fun q h => by rw [← hAe]; exact Or.inr h
  have hS : va_S A s.heap s.heap [] := va_S.rf
  have hP : va_P (dC, dI) vwCl [(h0, .inr (1, [.null, .int 0]))] s.heap := hP
  have hl := lv_entry ([.ref h0]) (n := 1) (Nat.le_of_ble_eq_true rfl)
  rw [lg_entry_eq]
  generalize (lg_sl ([.ref h0]) ++ List.replicate (1 - (lg_sl ([.ref h0])).length) Slot.unset).toArray = ls at hl ⊢
  have hl : lv_has ls 1 [(0, .ref h0)] := hl
  refine lv_aload_n hx hb d_T_init_0 rfl (lv_at hl 0 rfl) ?_
  refine W.objInit hx hb hown (hw0 (.methodLink R_T 3 objectInit) (List.mem_of_getElem? (i := 59) rfl)) (hw0 (.instanceMethod objectInit) (List.mem_of_getElem? (i := 54) rfl)) (hw0 (.code objectInit ⟨#[0xb1]⟩ 1 none) (List.mem_of_getElem? (i := 55) rfl)) rfl (by rw [hml]; exact hl.1) rfl d_T_init_1 (Nat.le_of_ble_eq_true rfl) (Nat.le_of_ble_eq_true rfl) ?_
  refine W.eq (g2 := F0 m 4 ls []) rfl ?_
  refine lv_aload_n hx hb d_T_init_4 rfl (lv_at hl 0 rfl) ?_
  refine lv_sipush (v := 256) hx hb d_T_init_5 (by decide +kernel) ?_
  refine va_newa (atype := .byte) (ty := .byte) (N' := 256) (a0 := (256, .inl (fun _ => 0))) hx hb (hw0 (.arrayClass .byte) (List.mem_of_getElem? (i := 60) rfl)) rfl hK hP hD hS hA (fun _ => rfl) (by decide +kernel) (by decide +kernel) (by decide +kernel) (by decide +kernel) (by decide +kernel) d_T_init_8 (fun q_1 cA_2 H hK hP hD hS => ?_)
  replace hK : va_K (dC, dI) vwCl [(cA_2, .byte)] s := hK
  replace hP : va_P (dC, dI) vwCl [(h0, .inr (1, [.null, .int 0])), (q_1, .inl (cA_2, 256, .inl (fun _ => 0)))] H := hP
  replace hD : va_D A [(h0, .inr (1, [.null, .int 0])), (q_1, .inl (cA_2, 256, .inl (fun _ => 0)))] := hD
  refine W.widen (k := 1) (n := 256) (by decide +kernel) (by decide +kernel) ?_
  refine va_putF (D := (dC, dI)) (ci := 1) (v := .ref q_1) (ty := (.array .byte)) (C := R_T) (T := F_T) (N := 2) hx hb hw0 in_T ft_T tk_T nk_T hown hK hP hD hS 0 rfl rfl 0 (by decide) (hw0 (.fieldLink R_T 9 "TextKeeper$Text" "bytes" "[B") (List.mem_of_getElem? (i := 61) rfl)) (fun _ h9 => h9) rfl hin rfl (by decide +kernel) rfl rfl (Nat.le_of_ble_eq_true rfl) d_T_init_10 (fun H locs hP hD hS => ?_)
  replace hP : va_P (dC, dI) vwCl [(h0, .inr (1, [.ref q_1, .int 0])), (q_1, .inl (cA_2, 256, .inl (fun _ => 0)))] H := hP
  replace hD : va_D A [(h0, .inr (1, [.ref q_1, .int 0])), (q_1, .inl (cA_2, 256, .inl (fun _ => 0)))] := hD
  refine lv_aload_n hx hb d_T_init_13 rfl (lv_at hl 0 rfl) ?_
  refine lv_iconst (v := 0) hx hb d_T_init_14 (by decide) ?_
  refine va_put (D := (dC, dI)) (ci := 1) (v := .int 0) (ty := .int) (C := R_T) (T := F_T) (N := 2) hx hb hw0 in_T ft_T tk_T nk_T hown hK hP hD hS 0 rfl rfl 1 (by decide) (hw0 (.fieldLink R_T 15 "TextKeeper$Text" "length" "I") (List.mem_of_getElem? (i := 62) rfl)) (fun _ h9 => h9) rfl (by decide +kernel) rfl rfl (Nat.le_of_ble_eq_true rfl) d_T_init_15 (fun H locs hP hD hS => ?_)
  replace hP : va_P (dC, dI) vwCl [(h0, .inr (1, [.ref q_1, .int 0])), (q_1, .inl (cA_2, 256, .inl (fun _ => 0)))] H := hP
  replace hD : va_D A [(h0, .inr (1, [.ref q_1, .int 0])), (q_1, .inl (cA_2, 256, .inl (fun _ => 0)))] := hD
  have hP9 := hP.sub (ws' := [(h0, .inr (1, [.ref q_1, .int 0])), (q_1, .inl (cA_2, 256, .inl (fun _ => 0)))]) [0, 1] rfl
  have hD9 := hD.sub (ws' := [(h0, .inr (1, [.ref q_1, .int 0])), (q_1, .inl (cA_2, 256, .inl (fun _ => 0)))]) [0, 1] (by decide) rfl
  have hK9 := hK.sub (tys' := [(cA_2, .byte)]) [0] rfl
  exact W.vret hx hb hr (fun t ht hW => ⟨⟨(), rfl, trivial, q_1, cA_2, by rw [ht]; exact hP9, va_K.moved hW.alike hK9, hD9⟩, hS.F ht⟩) hS.2.2 d_T_init_18
set_option maxHeartbeats 4000000 in
set_option maxRecDepth 100000 in
theorem c_PieceWriter_init (l : Launch) (dC : Nat → ClassId) (dI : Nat → Nat → Nat) (sz : Nat) (h0 : Nat)  : Met l y_W_init k_W_init ({ frames := 1, cells := 1, slots := 512, locals := 12 } : Room) (va_Pc [.ref h0] (pc_E (dC, dI) [(h0, .inr (3, [.null, .int 0]))] [] sz)) (va_Qv (fun (_ : Unit) => True) (fun (_ : Unit) t => ∃ (q1 : Nat), at_E (dC, dI) (va_A [(h0, .inr (3, [.null, .int 0]))] sz) [(h0, .inr (3, [.ref q1, .int 0]))] [] t) (va_A [(h0, .inr (3, [.null, .int 0]))] sz)) 1 512 (va_A [(h0, .inr (3, [.null, .int 0]))] sz) := by
  refine Met.ofW (cc := prog_4_method_1_code) (maxL := 1) (ret := none) (by decide) rfl ?_
  intro p e s m args below meth c s₁ B hml hv
  obtain ⟨rfl, hsz, hP, hK, hD0, hN⟩ := hv
  have hx := B.exec
  have hb := B.bytes
  have hr := B.returns
  have hts := atoms_spec (ws := k_W_init) B.pre
  have hw0 : ∀ w ∈ w0, w.before _ s = true := fun w h => hts w (List.mem_cons_of_mem _ h)
  have hown : s.vm.findClass R_W = some m.cls := findClass_of_methodNamed B.named
  have hlocks := B.notSynchronized
  have hin : meth.name = "<init>" := (name_of_methodNamed B.named B.method).1
  subst hsz
  have hD := hD0.self (sz := s.heap.size)
  generalize hAe : va_A [(h0, .inr (3, [.null, .int 0]))] s.heap.size = A at hD ⊢
  have hA : ∀ q : Nat, s.heap.size ≤ q → A q := fun q h => by rw [← hAe]; exact Or.inr h
  have hS : va_S A s.heap s.heap [] := va_S.rf
  have hP : va_P (dC, dI) vwCl [(h0, .inr (3, [.null, .int 0]))] s.heap := hP
  have hl := lv_entry ([.ref h0]) (n := 1) (Nat.le_of_ble_eq_true rfl)
  rw [lg_entry_eq]
  generalize (lg_sl ([.ref h0]) ++ List.replicate (1 - (lg_sl ([.ref h0])).length) Slot.unset).toArray = ls at hl ⊢
  have hl : lv_has ls 1 [(0, .ref h0)] := hl
  refine lv_aload_n hx hb d_W_init_0 rfl (lv_at hl 0 rfl) ?_
  refine W.objInit hx hb hown (hw0 (.methodLink R_W 3 objectInit) (List.mem_of_getElem? (i := 63) rfl)) (hw0 (.instanceMethod objectInit) (List.mem_of_getElem? (i := 54) rfl)) (hw0 (.code objectInit ⟨#[0xb1]⟩ 1 none) (List.mem_of_getElem? (i := 55) rfl)) rfl (by rw [hml]; exact hl.1) rfl d_W_init_1 (Nat.le_of_ble_eq_true rfl) (Nat.le_of_ble_eq_true rfl) ?_
  refine W.eq (g2 := F0 m 4 ls []) rfl ?_
  refine lv_aload_n hx hb d_W_init_4 rfl (lv_at hl 0 rfl) ?_
  refine lv_sipush (v := 512) hx hb d_W_init_5 (by decide +kernel) ?_
  refine va_newa (atype := .byte) (ty := .byte) (N' := 512) (a0 := (512, .inl (fun _ => 0))) hx hb (hw0 (.arrayClass .byte) (List.mem_of_getElem? (i := 60) rfl)) rfl hK hP hD hS hA (fun _ => rfl) (by decide +kernel) (by decide +kernel) (by decide +kernel) (by decide +kernel) (by decide +kernel) d_W_init_8 (fun q_1 cA_2 H hK hP hD hS => ?_)
  replace hK : va_K (dC, dI) vwCl [(cA_2, .byte)] s := hK
  replace hP : va_P (dC, dI) vwCl [(h0, .inr (3, [.null, .int 0])), (q_1, .inl (cA_2, 512, .inl (fun _ => 0)))] H := hP
  replace hD : va_D A [(h0, .inr (3, [.null, .int 0])), (q_1, .inl (cA_2, 512, .inl (fun _ => 0)))] := hD
  refine W.widen (k := 1) (n := 512) (by decide +kernel) (by decide +kernel) ?_
  refine va_putF (D := (dC, dI)) (ci := 3) (v := .ref q_1) (ty := (.array .byte)) (C := R_W) (T := F_W) (N := 2) hx hb hw0 in_W ft_W tk_W nk_W hown hK hP hD hS 0 rfl rfl 0 (by decide) (hw0 (.fieldLink R_W 9 "TextKeeper$PieceWriter" "row" "[B") (List.mem_of_getElem? (i := 64) rfl)) (fun _ h9 => h9) rfl hin rfl (by decide +kernel) rfl rfl (Nat.le_of_ble_eq_true rfl) d_W_init_10 (fun H locs hP hD hS => ?_)
  replace hP : va_P (dC, dI) vwCl [(h0, .inr (3, [.ref q_1, .int 0])), (q_1, .inl (cA_2, 512, .inl (fun _ => 0)))] H := hP
  replace hD : va_D A [(h0, .inr (3, [.ref q_1, .int 0])), (q_1, .inl (cA_2, 512, .inl (fun _ => 0)))] := hD
  refine lv_aload_n hx hb d_W_init_13 rfl (lv_at hl 0 rfl) ?_
  refine lv_iconst (v := 0) hx hb d_W_init_14 (by decide) ?_
  refine va_put (D := (dC, dI)) (ci := 3) (v := .int 0) (ty := .int) (C := R_W) (T := F_W) (N := 2) hx hb hw0 in_W ft_W tk_W nk_W hown hK hP hD hS 0 rfl rfl 1 (by decide) (hw0 (.fieldLink R_W 15 "TextKeeper$PieceWriter" "length" "I") (List.mem_of_getElem? (i := 65) rfl)) (fun _ h9 => h9) rfl (by decide +kernel) rfl rfl (Nat.le_of_ble_eq_true rfl) d_W_init_15 (fun H locs hP hD hS => ?_)
  replace hP : va_P (dC, dI) vwCl [(h0, .inr (3, [.ref q_1, .int 0])), (q_1, .inl (cA_2, 512, .inl (fun _ => 0)))] H := hP
  replace hD : va_D A [(h0, .inr (3, [.ref q_1, .int 0])), (q_1, .inl (cA_2, 512, .inl (fun _ => 0)))] := hD
  have hP9 := hP.sub (ws' := [(h0, .inr (3, [.ref q_1, .int 0]))]) [0] rfl
  have hD9 := hD.sub (ws' := [(h0, .inr (3, [.ref q_1, .int 0]))]) [0] (by decide) rfl
  have hK9 := hK.sub (tys' := []) [] rfl
  exact W.vret hx hb hr (fun t ht hW => ⟨⟨(), rfl, trivial, q_1, by rw [ht]; exact hP9, va_K.moved hW.alike hK9, hD9⟩, hS.F ht⟩) hS.2.2 d_W_init_18
set_option maxHeartbeats 4000000 in
set_option maxRecDepth 100000 in
theorem c_Maker_init (l : Launch) (dC : Nat → ClassId) (dI : Nat → Nat → Nat) (sz : Nat) (h0 : Nat)  : Met l y_M_init k_M_init ({ frames := 2, cells := 5, slots := 516, locals := 32 } : Room) (va_Pc [.ref h0] (pc_E (dC, dI) [(h0, .inr (2, [.null, .null, .null, .int 0]))] [] sz)) (va_Qv (fun (_ : Unit) => True) (fun (_ : Unit) t => ∃ (q1 : Nat) (q2 : Nat) (q3 : Nat), at_E (dC, dI) (va_A [(h0, .inr (2, [.null, .null, .null, .int 0]))] sz) [(h0, .inr (2, [.ref q1, .ref q2, .ref q3, .int 0]))] [] t) (va_A [(h0, .inr (2, [.null, .null, .null, .int 0]))] sz)) 5 516 (va_A [(h0, .inr (2, [.null, .null, .null, .int 0]))] sz) := by
  refine Met.ofW (cc := prog_3_method_1_code) (maxL := 1) (ret := none) (by decide) rfl ?_
  intro p e s m args below meth c s₁ B hml hv
  obtain ⟨rfl, hsz, hP, hK, hD0, hN⟩ := hv
  have hx := B.exec
  have hb := B.bytes
  have hr := B.returns
  have hts := atoms_spec (ws := k_M_init) B.pre
  have hw0 : ∀ w ∈ w0, w.before _ s = true := fun w h => hts w (List.mem_cons_of_mem _ h)
  have hown : s.vm.findClass R_M = some m.cls := findClass_of_methodNamed B.named
  have hlocks := B.notSynchronized
  have hin : meth.name = "<init>" := (name_of_methodNamed B.named B.method).1
  subst hsz
  have hD := hD0.self (sz := s.heap.size)
  generalize hAe : va_A [(h0, .inr (2, [.null, .null, .null, .int 0]))] s.heap.size = A at hD ⊢
  have hA : ∀ q : Nat, s.heap.size ≤ q → A q := fun q h => by rw [← hAe]; exact Or.inr h
  have hS : va_S A s.heap s.heap [] := va_S.rf
  have hP : va_P (dC, dI) vwCl [(h0, .inr (2, [.null, .null, .null, .int 0]))] s.heap := hP
  have hl := lv_entry ([.ref h0]) (n := 1) (Nat.le_of_ble_eq_true rfl)
  rw [lg_entry_eq]
  generalize (lg_sl ([.ref h0]) ++ List.replicate (1 - (lg_sl ([.ref h0])).length) Slot.unset).toArray = ls at hl ⊢
  have hl : lv_has ls 1 [(0, .ref h0)] := hl
  refine lv_aload_n hx hb d_M_init_0 rfl (lv_at hl 0 rfl) ?_
  refine W.objInit hx hb hown (hw0 (.methodLink R_M 3 objectInit) (List.mem_of_getElem? (i := 66) rfl)) (hw0 (.instanceMethod objectInit) (List.mem_of_getElem? (i := 54) rfl)) (hw0 (.code objectInit ⟨#[0xb1]⟩ 1 none) (List.mem_of_getElem? (i := 55) rfl)) rfl (by rw [hml]; exact hl.1) rfl d_M_init_1 (Nat.le_of_ble_eq_true rfl) (Nat.le_of_ble_eq_true rfl) ?_
  refine W.eq (g2 := F0 m 4 ls []) rfl ?_
  refine lv_aload_n hx hb d_M_init_4 rfl (lv_at hl 0 rfl) ?_
  refine va_new (ci := 1) (fs := [.null, .int 0]) (C := R_T) (T := F_T) (N := 2) hx hb hw0 in_T ft_T tk_T hown (hw0 (.classLink R_M 9 R_T) (List.mem_of_getElem? (i := 67) rfl)) (hw0 (.instantiable R_T 2) (List.mem_of_getElem? (i := 68) rfl)) (hw0 (.initialized R_T) (List.mem_of_getElem? (i := 69) rfl)) hK hP hD hS hA rfl (fun j hj => nw_T j hj) (by decide +kernel) (by decide +kernel) d_M_init_5 (fun q_1 H hP hD hS => ?_)
  replace hP : va_P (dC, dI) vwCl [(h0, .inr (2, [.null, .null, .null, .int 0])), (q_1, .inr (1, [.null, .int 0]))] H := hP
  replace hD : va_D A [(h0, .inr (2, [.null, .null, .null, .int 0])), (q_1, .inr (1, [.null, .int 0]))] := hD
  refine W.widen (k := 1) (n := 2) (by decide +kernel) (by decide +kernel) ?_
  refine lv_dup hx hb d_M_init_8 rfl ?_
  have hPc := hP.sub (ws' := [(q_1, .inr (1, [.null, .int 0]))]) [1] rfl
  have hKc := hK.sub (tys' := []) [] rfl
  have hDc := hD.sub (ws' := [(q_1, .inr (1, [.null, .int 0]))]) [1] (by decide) rfl
  have hFc := va_free (wc := [(q_1, .inr (1, [.null, .int 0]))]) hD hS hA [1] rfl
  refine va_callv (va_runI (As := []) (rest := [.ref q_1, .ref h0]) ⟨hx, hb, hml, hown, hw0⟩ (c_Text_init l dC dI H.size q_1) (cwI 0 hw0 (gd_I 70 rfl) rfl rfl rfl (hw0 (.initialized R_T) (List.mem_of_getElem? (i := 69) rfl)) (hw0 (.methodLink R_M 11 y_T_init) (List.mem_of_getElem? (i := 71) rfl)) (hw0 (.instanceMethod y_T_init) (List.mem_of_getElem? (i := 72) rfl)) rfl (by decide +kernel) ⟨by decide +kernel, by decide +kernel⟩) (prS_E hPc hKc hDc hN) rfl rfl hl.1 rfl (lv_room (Nat.le_of_ble_eq_true rfl)) d_M_init_9 ⟨by decide +kernel, by decide +kernel⟩) hS (fun q _ h => hFc q h) hFc (fun u t H1 locs ht hvm hw hB hz1 hk1 hS => ?_)
  obtain ⟨q1_2, cB_3, hP1, hK1, hD1⟩ := hB
  rw [ht] at hP1
  have hK1 := va_K.moved hvm.symm hK1
  try dsimp only at hw
  obtain ⟨hP, hD⟩ := va_join (wr := [(h0, .inr (2, [.null, .null, .null, .int 0]))]) (w1 := [(q_1, .inr (1, [.ref q1_2, .int 0])), (q1_2, .inl (cB_3, 256, .inl (fun _ => 0)))]) hP hD [1] [0] rfl rfl (by decide) (by decide) hk1 hFc hP1 hD1
  have hK := hK.app (hK1.sub (tys' := [(cB_3, .byte)]) [0] rfl)
  generalize H1 = H at hP hS ⊢
  replace hP : va_P (dC, dI) vwCl [(h0, .inr (2, [.null, .null, .null, .int 0])), (q_1, .inr (1, [.ref q1_2, .int 0])), (q1_2, .inl (cB_3, 256, .inl (fun _ => 0)))] H := hP
  replace hD : va_D A [(h0, .inr (2, [.null, .null, .null, .int 0])), (q_1, .inr (1, [.ref q1_2, .int 0])), (q1_2, .inl (cB_3, 256, .inl (fun _ => 0)))] := hD
  replace hK : va_K (dC, dI) vwCl [(cB_3, .byte)] s := hK
  refine W.widen (k := 2) (n := 258) (by decide +kernel) (by decide +kernel) ?_
  refine va_put (D := (dC, dI)) (ci := 2) (v := .ref q_1) (ty := (.object "TextKeeper$Text")) (C := R_M) (T := F_M) (N := 4) hx hb hw0 in_M ft_M tk_M nk_M hown hK hP hD hS 0 rfl rfl 0 (by decide) (hw0 (.fieldLink R_M 12 "TextKeeper$Maker" "base" "LTextKeeper$Text;") (List.mem_of_getElem? (i := 73) rfl)) (fun _ h9 => h9) rfl (by decide +kernel) rfl rfl (Nat.le_of_ble_eq_true rfl) d_M_init_12 (fun H locs hP hD hS => ?_)
  replace hP : va_P (dC, dI) vwCl [(h0, .inr (2, [.ref q_1, .null, .null, .int 0])), (q_1, .inr (1, [.ref q1_2, .int 0])), (q1_2, .inl (cB_3, 256, .inl (fun _ => 0)))] H := hP
  replace hD : va_D A [(h0, .inr (2, [.ref q_1, .null, .null, .int 0])), (q_1, .inr (1, [.ref q1_2, .int 0])), (q1_2, .inl (cB_3, 256, .inl (fun _ => 0)))] := hD
  refine lv_aload_n hx hb d_M_init_15 rfl (lv_at hl 0 rfl) ?_
  refine va_new (ci := 1) (fs := [.null, .int 0]) (C := R_T) (T := F_T) (N := 2) hx hb hw0 in_T ft_T tk_T hown (hw0 (.classLink R_M 9 R_T) (List.mem_of_getElem? (i := 67) rfl)) (hw0 (.instantiable R_T 2) (List.mem_of_getElem? (i := 68) rfl)) (hw0 (.initialized R_T) (List.mem_of_getElem? (i := 69) rfl)) hK hP hD hS hA rfl (fun j hj => nw_T j hj) (by decide +kernel) (by decide +kernel) d_M_init_16 (fun q_5 H hP hD hS => ?_)
  replace hP : va_P (dC, dI) vwCl [(h0, .inr (2, [.ref q_1, .null, .null, .int 0])), (q_1, .inr (1, [.ref q1_2, .int 0])), (q1_2, .inl (cB_3, 256, .inl (fun _ => 0))), (q_5, .inr (1, [.null, .int 0]))] H := hP
  replace hD : va_D A [(h0, .inr (2, [.ref q_1, .null, .null, .int 0])), (q_1, .inr (1, [.ref q1_2, .int 0])), (q1_2, .inl (cB_3, 256, .inl (fun _ => 0))), (q_5, .inr (1, [.null, .int 0]))] := hD
  refine W.widen (k := 3) (n := 260) (by decide +kernel) (by decide +kernel) ?_
  refine lv_dup hx hb d_M_init_19 rfl ?_
  have hPc := hP.sub (ws' := [(q_5, .inr (1, [.null, .int 0]))]) [3] rfl
  have hKc := hK.sub (tys' := []) [] rfl
  have hDc := hD.sub (ws' := [(q_5, .inr (1, [.null, .int 0]))]) [3] (by decide) rfl
  have hFc := va_free (wc := [(q_5, .inr (1, [.null, .int 0]))]) hD hS hA [3] rfl
  refine va_callv (va_runI (As := []) (rest := [.ref q_5, .ref h0]) ⟨hx, hb, hml, hown, hw0⟩ (c_Text_init l dC dI H.size q_5) (cwI 0 hw0 (gd_I 70 rfl) rfl rfl rfl (hw0 (.initialized R_T) (List.mem_of_getElem? (i := 69) rfl)) (hw0 (.methodLink R_M 11 y_T_init) (List.mem_of_getElem? (i := 71) rfl)) (hw0 (.instanceMethod y_T_init) (List.mem_of_getElem? (i := 72) rfl)) rfl (by decide +kernel) ⟨by decide +kernel, by decide +kernel⟩) (prS_E hPc hKc hDc hN) rfl rfl hl.1 rfl (lv_room (Nat.le_of_ble_eq_true rfl)) d_M_init_20 ⟨by decide +kernel, by decide +kernel⟩) hS (fun q _ h => hFc q h) hFc (fun u t H1 locs ht hvm hw hB hz1 hk1 hS => ?_)
  obtain ⟨q1_6, cB_7, hP1, hK1, hD1⟩ := hB
  rw [ht] at hP1
  have hK1 := va_K.moved hvm.symm hK1
  try dsimp only at hw
  obtain ⟨hP, hD⟩ := va_join (wr := [(h0, .inr (2, [.ref q_1, .null, .null, .int 0])), (q_1, .inr (1, [.ref q1_2, .int 0])), (q1_2, .inl (cB_3, 256, .inl (fun _ => 0)))]) (w1 := [(q_5, .inr (1, [.ref q1_6, .int 0])), (q1_6, .inl (cB_7, 256, .inl (fun _ => 0)))]) hP hD [3] [0, 1, 2] rfl rfl (by decide) (by decide) hk1 hFc hP1 hD1
  have hK := hK.app (hK1.sub (tys' := [(cB_7, .byte)]) [0] rfl)
  generalize H1 = H at hP hS ⊢
  replace hP : va_P (dC, dI) vwCl [(h0, .inr (2, [.ref q_1, .null, .null, .int 0])), (q_1, .inr (1, [.ref q1_2, .int 0])), (q1_2, .inl (cB_3, 256, .inl (fun _ => 0))), (q_5, .inr (1, [.ref q1_6, .int 0])), (q1_6, .inl (cB_7, 256, .inl (fun _ => 0)))] H := hP
  replace hD : va_D A [(h0, .inr (2, [.ref q_1, .null, .null, .int 0])), (q_1, .inr (1, [.ref q1_2, .int 0])), (q1_2, .inl (cB_3, 256, .inl (fun _ => 0))), (q_5, .inr (1, [.ref q1_6, .int 0])), (q1_6, .inl (cB_7, 256, .inl (fun _ => 0)))] := hD
  replace hK : va_K (dC, dI) vwCl [(cB_3, .byte), (cB_7, .byte)] s := hK
  refine W.widen (k := 4) (n := 516) (by decide +kernel) (by decide +kernel) ?_
  refine va_put (D := (dC, dI)) (ci := 2) (v := .ref q_5) (ty := (.object "TextKeeper$Text")) (C := R_M) (T := F_M) (N := 4) hx hb hw0 in_M ft_M tk_M nk_M hown hK hP hD hS 0 rfl rfl 1 (by decide) (hw0 (.fieldLink R_M 18 "TextKeeper$Maker" "text" "LTextKeeper$Text;") (List.mem_of_getElem? (i := 74) rfl)) (fun _ h9 => h9) rfl (by decide +kernel) rfl rfl (Nat.le_of_ble_eq_true rfl) d_M_init_23 (fun H locs hP hD hS => ?_)
  replace hP : va_P (dC, dI) vwCl [(h0, .inr (2, [.ref q_1, .ref q_5, .null, .int 0])), (q_1, .inr (1, [.ref q1_2, .int 0])), (q1_2, .inl (cB_3, 256, .inl (fun _ => 0))), (q_5, .inr (1, [.ref q1_6, .int 0])), (q1_6, .inl (cB_7, 256, .inl (fun _ => 0)))] H := hP
  replace hD : va_D A [(h0, .inr (2, [.ref q_1, .ref q_5, .null, .int 0])), (q_1, .inr (1, [.ref q1_2, .int 0])), (q1_2, .inl (cB_3, 256, .inl (fun _ => 0))), (q_5, .inr (1, [.ref q1_6, .int 0])), (q1_6, .inl (cB_7, 256, .inl (fun _ => 0)))] := hD
  refine lv_aload_n hx hb d_M_init_26 rfl (lv_at hl 0 rfl) ?_
  refine lv_iconst (v := 0) hx hb d_M_init_27 (by decide) ?_
  refine va_newa (atype := .byte) (ty := .byte) (N' := 0) (a0 := (0, .inl (fun _ => 0))) hx hb (hw0 (.arrayClass .byte) (List.mem_of_getElem? (i := 60) rfl)) rfl hK hP hD hS hA (fun _ => rfl) (by decide +kernel) (by decide +kernel) (by decide +kernel) (by decide +kernel) (by decide +kernel) d_M_init_28 (fun q_9 cA_10 H hK hP hD hS => ?_)
  replace hK : va_K (dC, dI) vwCl [(cB_3, .byte), (cB_7, .byte), (cA_10, .byte)] s := hK
  replace hP : va_P (dC, dI) vwCl [(h0, .inr (2, [.ref q_1, .ref q_5, .null, .int 0])), (q_1, .inr (1, [.ref q1_2, .int 0])), (q1_2, .inl (cB_3, 256, .inl (fun _ => 0))), (q_5, .inr (1, [.ref q1_6, .int 0])), (q1_6, .inl (cB_7, 256, .inl (fun _ => 0))), (q_9, .inl (cA_10, 0, .inl (fun _ => 0)))] H := hP
  replace hD : va_D A [(h0, .inr (2, [.ref q_1, .ref q_5, .null, .int 0])), (q_1, .inr (1, [.ref q1_2, .int 0])), (q1_2, .inl (cB_3, 256, .inl (fun _ => 0))), (q_5, .inr (1, [.ref q1_6, .int 0])), (q1_6, .inl (cB_7, 256, .inl (fun _ => 0))), (q_9, .inl (cA_10, 0, .inl (fun _ => 0)))] := hD
  refine W.widen (k := 5) (n := 516) (by decide +kernel) (by decide +kernel) ?_
  refine va_put (D := (dC, dI)) (ci := 2) (v := .ref q_9) (ty := (.array .byte)) (C := R_M) (T := F_M) (N := 4) hx hb hw0 in_M ft_M tk_M nk_M hown hK hP hD hS 0 rfl rfl 2 (by decide) (hw0 (.fieldLink R_M 21 "TextKeeper$Maker" "piece" "[B") (List.mem_of_getElem? (i := 75) rfl)) (fun _ h9 => h9) rfl (by decide +kernel) rfl rfl (Nat.le_of_ble_eq_true rfl) d_M_init_30 (fun H locs hP hD hS => ?_)
  replace hP : va_P (dC, dI) vwCl [(h0, .inr (2, [.ref q_1, .ref q_5, .ref q_9, .int 0])), (q_1, .inr (1, [.ref q1_2, .int 0])), (q1_2, .inl (cB_3, 256, .inl (fun _ => 0))), (q_5, .inr (1, [.ref q1_6, .int 0])), (q1_6, .inl (cB_7, 256, .inl (fun _ => 0))), (q_9, .inl (cA_10, 0, .inl (fun _ => 0)))] H := hP
  replace hD : va_D A [(h0, .inr (2, [.ref q_1, .ref q_5, .ref q_9, .int 0])), (q_1, .inr (1, [.ref q1_2, .int 0])), (q1_2, .inl (cB_3, 256, .inl (fun _ => 0))), (q_5, .inr (1, [.ref q1_6, .int 0])), (q1_6, .inl (cB_7, 256, .inl (fun _ => 0))), (q_9, .inl (cA_10, 0, .inl (fun _ => 0)))] := hD
  refine lv_aload_n hx hb d_M_init_33 rfl (lv_at hl 0 rfl) ?_
  refine lv_iconst (v := 0) hx hb d_M_init_34 (by decide) ?_
  refine va_put (D := (dC, dI)) (ci := 2) (v := .int 0) (ty := .int) (C := R_M) (T := F_M) (N := 4) hx hb hw0 in_M ft_M tk_M nk_M hown hK hP hD hS 0 rfl rfl 3 (by decide) (hw0 (.fieldLink R_M 25 "TextKeeper$Maker" "at" "I") (List.mem_of_getElem? (i := 76) rfl)) (fun _ h9 => h9) rfl (by decide +kernel) rfl rfl (Nat.le_of_ble_eq_true rfl) d_M_init_35 (fun H locs hP hD hS => ?_)
  replace hP : va_P (dC, dI) vwCl [(h0, .inr (2, [.ref q_1, .ref q_5, .ref q_9, .int 0])), (q_1, .inr (1, [.ref q1_2, .int 0])), (q1_2, .inl (cB_3, 256, .inl (fun _ => 0))), (q_5, .inr (1, [.ref q1_6, .int 0])), (q1_6, .inl (cB_7, 256, .inl (fun _ => 0))), (q_9, .inl (cA_10, 0, .inl (fun _ => 0)))] H := hP
  replace hD : va_D A [(h0, .inr (2, [.ref q_1, .ref q_5, .ref q_9, .int 0])), (q_1, .inr (1, [.ref q1_2, .int 0])), (q1_2, .inl (cB_3, 256, .inl (fun _ => 0))), (q_5, .inr (1, [.ref q1_6, .int 0])), (q1_6, .inl (cB_7, 256, .inl (fun _ => 0))), (q_9, .inl (cA_10, 0, .inl (fun _ => 0)))] := hD
  have hP9 := hP.sub (ws' := [(h0, .inr (2, [.ref q_1, .ref q_5, .ref q_9, .int 0]))]) [0] rfl
  have hD9 := hD.sub (ws' := [(h0, .inr (2, [.ref q_1, .ref q_5, .ref q_9, .int 0]))]) [0] (by decide) rfl
  have hK9 := hK.sub (tys' := []) [] rfl
  exact W.vret hx hb hr (fun t ht hW => ⟨⟨(), rfl, trivial, q_1, q_5, q_9, by rw [ht]; exact hP9, va_K.moved hW.alike hK9, hD9⟩, hS.F ht⟩) hS.2.2 d_M_init_38
set_option maxHeartbeats 4000000 in
set_option maxRecDepth 100000 in
theorem c_Keeper_init (l : Launch) (dC : Nat → ClassId) (dI : Nat → Nat → Nat) (sz : Nat) (h0 : Nat)  : Met l y_K_init k_K_init ({ frames := 3, cells := 16, slots := 1819, locals := 52 } : Room) (va_Pc [.ref h0] (pc_E (dC, dI) [(h0, .inr (0, [.null, .null, .null, .null, .null, .null, .null, .int 0, .int 0]))] [] sz)) (va_Qv (fun (_ : Unit) => True) (fun (_ : Unit) t => ∃ (qd : Nat) (cD : ClassId) (qb : Nat) (qy : Nat) (cB : ClassId) (qf : Nat) (qz : Nat) (qc : Nat) (qm : Nat) (qw : Nat) (qp : Nat), at_E (dC, dI) (va_A [(h0, .inr (0, [.null, .null, .null, .null, .null, .null, .null, .int 0, .int 0]))] sz) [(h0, .inr (0, [.ref qd, .ref qb, .ref qf, .ref qc, .ref qm, .ref qw, .ref qp, .int 0, .int (-1)])), (qd, .inl (cD, 8, .inr (.inr (.inr (.inr (fun _ => none)))))), (qb, .inr (1, [.ref qy, .int 0])), (qy, .inl (cB, 256, .inl (fun _ => 0))), (qf, .inr (1, [.ref qz, .int 0])), (qp, .inr (4, [.int 0, .int 0, .int 0]))] [(cD, .object R_D), (cB, .byte)] t) (va_A [(h0, .inr (0, [.null, .null, .null, .null, .null, .null, .null, .int 0, .int 0]))] sz)) 16 1819 (va_A [(h0, .inr (0, [.null, .null, .null, .null, .null, .null, .null, .int 0, .int 0]))] sz) := by
  refine Met.ofW (cc := prog_1_method_1_code) (maxL := 1) (ret := none) (by decide) rfl ?_
  intro p e s m args below meth c s₁ B hml hv
  obtain ⟨rfl, hsz, hP, hK, hD0, hN⟩ := hv
  have hx := B.exec
  have hb := B.bytes
  have hr := B.returns
  have hts := atoms_spec (ws := k_K_init) B.pre
  have hw0 : ∀ w ∈ w0, w.before _ s = true := fun w h => hts w (List.mem_cons_of_mem _ h)
  have hown : s.vm.findClass R_K = some m.cls := findClass_of_methodNamed B.named
  have hlocks := B.notSynchronized
  have hin : meth.name = "<init>" := (name_of_methodNamed B.named B.method).1
  subst hsz
  have hD := hD0.self (sz := s.heap.size)
  generalize hAe : va_A [(h0, .inr (0, [.null, .null, .null, .null, .null, .null, .null, .int 0, .int 0]))] s.heap.size = A at hD ⊢
  have hA : ∀ q : Nat, s.heap.size ≤ q → A q := fun q h => by rw [← hAe]; exact Or.inr h
  have hS : va_S A s.heap s.heap [] := va_S.rf
  have hP : va_P (dC, dI) vwCl [(h0, .inr (0, [.null, .null, .null, .null, .null, .null, .null, .int 0, .int 0]))] s.heap := hP
  have hl := lv_entry ([.ref h0]) (n := 1) (Nat.le_of_ble_eq_true rfl)
  rw [lg_entry_eq]
  generalize (lg_sl ([.ref h0]) ++ List.replicate (1 - (lg_sl ([.ref h0])).length) Slot.unset).toArray = ls at hl ⊢
  have hl : lv_has ls 1 [(0, .ref h0)] := hl
  refine lv_aload_n hx hb d_K_init_0 rfl (lv_at hl 0 rfl) ?_
  refine W.objInit hx hb hown (hw0 (.methodLink R_K 1 objectInit) (List.mem_of_getElem? (i := 77) rfl)) (hw0 (.instanceMethod objectInit) (List.mem_of_getElem? (i := 54) rfl)) (hw0 (.code objectInit ⟨#[0xb1]⟩ 1 none) (List.mem_of_getElem? (i := 55) rfl)) rfl (by rw [hml]; exact hl.1) rfl d_K_init_1 (Nat.le_of_ble_eq_true rfl) (Nat.le_of_ble_eq_true rfl) ?_
  refine W.eq (g2 := F0 m 4 ls []) rfl ?_
  refine lv_aload_n hx hb d_K_init_4 rfl (lv_at hl 0 rfl) ?_
  refine lv_bipush (v := 8) hx hb d_K_init_5 (by decide +kernel) ?_
  refine va_newq (N' := 8) hx hb hown (hw0 (.classLink R_K 9 R_D) (List.mem_of_getElem? (i := 78) rfl)) (hN.2 _ (List.mem_of_getElem? (i := 0) rfl)) hK hP hD hS hA (by decide +kernel) (by decide +kernel) (by decide +kernel) (by decide +kernel) (by decide +kernel) d_K_init_7 (fun q_1 cA_2 H hK hP hD hS => ?_)
  replace hK : va_K (dC, dI) vwCl [(cA_2, .object R_D)] s := hK
  replace hP : va_P (dC, dI) vwCl [(h0, .inr (0, [.null, .null, .null, .null, .null, .null, .null, .int 0, .int 0])), (q_1, .inl (cA_2, 8, .inr (.inr (.inr (.inr (fun _ => none))))))] H := hP
  replace hD : va_D A [(h0, .inr (0, [.null, .null, .null, .null, .null, .null, .null, .int 0, .int 0])), (q_1, .inl (cA_2, 8, .inr (.inr (.inr (.inr (fun _ => none))))))] := hD
  refine W.widen (k := 1) (n := 8) (by decide +kernel) (by decide +kernel) ?_
  refine va_putF (D := (dC, dI)) (ci := 0) (v := .ref q_1) (ty := (.array (.object "TextKeeper$Document"))) (C := R_K) (T := F_K) (N := 9) hx hb hw0 in_K ft_K tk_K nk_K hown hK hP hD hS 0 rfl rfl 0 (by decide) (hw0 (.fieldLink R_K 11 "TextKeeper" "documents" "[LTextKeeper$Document;") (List.mem_of_getElem? (i := 79) rfl)) (fun _ h9 => h9) rfl hin rfl (by decide +kernel) rfl rfl (Nat.le_of_ble_eq_true rfl) d_K_init_10 (fun H locs hP hD hS => ?_)
  replace hP : va_P (dC, dI) vwCl [(h0, .inr (0, [.ref q_1, .null, .null, .null, .null, .null, .null, .int 0, .int 0])), (q_1, .inl (cA_2, 8, .inr (.inr (.inr (.inr (fun _ => none))))))] H := hP
  replace hD : va_D A [(h0, .inr (0, [.ref q_1, .null, .null, .null, .null, .null, .null, .int 0, .int 0])), (q_1, .inl (cA_2, 8, .inr (.inr (.inr (.inr (fun _ => none))))))] := hD
  refine lv_aload_n hx hb d_K_init_13 rfl (lv_at hl 0 rfl) ?_
  refine va_new (ci := 1) (fs := [.null, .int 0]) (C := R_T) (T := F_T) (N := 2) hx hb hw0 in_T ft_T tk_T hown (hw0 (.classLink R_K 15 R_T) (List.mem_of_getElem? (i := 80) rfl)) (hw0 (.instantiable R_T 2) (List.mem_of_getElem? (i := 68) rfl)) (hw0 (.initialized R_T) (List.mem_of_getElem? (i := 69) rfl)) hK hP hD hS hA rfl (fun j hj => nw_T j hj) (by decide +kernel) (by decide +kernel) d_K_init_14 (fun q_3 H hP hD hS => ?_)
  replace hP : va_P (dC, dI) vwCl [(h0, .inr (0, [.ref q_1, .null, .null, .null, .null, .null, .null, .int 0, .int 0])), (q_1, .inl (cA_2, 8, .inr (.inr (.inr (.inr (fun _ => none)))))), (q_3, .inr (1, [.null, .int 0]))] H := hP
  replace hD : va_D A [(h0, .inr (0, [.ref q_1, .null, .null, .null, .null, .null, .null, .int 0, .int 0])), (q_1, .inl (cA_2, 8, .inr (.inr (.inr (.inr (fun _ => none)))))), (q_3, .inr (1, [.null, .int 0]))] := hD
  refine W.widen (k := 2) (n := 10) (by decide +kernel) (by decide +kernel) ?_
  refine lv_dup hx hb d_K_init_17 rfl ?_
  have hPc := hP.sub (ws' := [(q_3, .inr (1, [.null, .int 0]))]) [2] rfl
  have hKc := hK.sub (tys' := []) [] rfl
  have hDc := hD.sub (ws' := [(q_3, .inr (1, [.null, .int 0]))]) [2] (by decide) rfl
  have hFc := va_free (wc := [(q_3, .inr (1, [.null, .int 0]))]) hD hS hA [2] rfl
  refine va_callv (va_runI (As := []) (rest := [.ref q_3, .ref h0]) ⟨hx, hb, hml, hown, hw0⟩ (c_Text_init l dC dI H.size q_3) (cwI 0 hw0 (gd_I 70 rfl) rfl rfl rfl (hw0 (.initialized R_T) (List.mem_of_getElem? (i := 69) rfl)) (hw0 (.methodLink R_K 17 y_T_init) (List.mem_of_getElem? (i := 81) rfl)) (hw0 (.instanceMethod y_T_init) (List.mem_of_getElem? (i := 72) rfl)) rfl (by decide +kernel) ⟨by decide +kernel, by decide +kernel⟩) (prS_E hPc hKc hDc hN) rfl rfl hl.1 rfl (lv_room (Nat.le_of_ble_eq_true rfl)) d_K_init_18 ⟨by decide +kernel, by decide +kernel⟩) hS (fun q _ h => hFc q h) hFc (fun u t H1 locs ht hvm hw hB hz1 hk1 hS => ?_)
  obtain ⟨q1_4, cB_5, hP1, hK1, hD1⟩ := hB
  rw [ht] at hP1
  have hK1 := va_K.moved hvm.symm hK1
  try dsimp only at hw
  obtain ⟨hP, hD⟩ := va_join (wr := [(h0, .inr (0, [.ref q_1, .null, .null, .null, .null, .null, .null, .int 0, .int 0])), (q_1, .inl (cA_2, 8, .inr (.inr (.inr (.inr (fun _ => none))))))]) (w1 := [(q_3, .inr (1, [.ref q1_4, .int 0])), (q1_4, .inl (cB_5, 256, .inl (fun _ => 0)))]) hP hD [2] [0, 1] rfl rfl (by decide) (by decide) hk1 hFc hP1 hD1
  have hK := hK.app (hK1.sub (tys' := [(cB_5, .byte)]) [0] rfl)
  generalize H1 = H at hP hS ⊢
  replace hP : va_P (dC, dI) vwCl [(h0, .inr (0, [.ref q_1, .null, .null, .null, .null, .null, .null, .int 0, .int 0])), (q_1, .inl (cA_2, 8, .inr (.inr (.inr (.inr (fun _ => none)))))), (q_3, .inr (1, [.ref q1_4, .int 0])), (q1_4, .inl (cB_5, 256, .inl (fun _ => 0)))] H := hP
  replace hD : va_D A [(h0, .inr (0, [.ref q_1, .null, .null, .null, .null, .null, .null, .int 0, .int 0])), (q_1, .inl (cA_2, 8, .inr (.inr (.inr (.inr (fun _ => none)))))), (q_3, .inr (1, [.ref q1_4, .int 0])), (q1_4, .inl (cB_5, 256, .inl (fun _ => 0)))] := hD
  replace hK : va_K (dC, dI) vwCl [(cA_2, .object R_D), (cB_5, .byte)] s := hK
  refine W.widen (k := 3) (n := 266) (by decide +kernel) (by decide +kernel) ?_
  refine va_putF (D := (dC, dI)) (ci := 0) (v := .ref q_3) (ty := (.object "TextKeeper$Text")) (C := R_K) (T := F_K) (N := 9) hx hb hw0 in_K ft_K tk_K nk_K hown hK hP hD hS 0 rfl rfl 1 (by decide) (hw0 (.fieldLink R_K 18 "TextKeeper" "buffer" "LTextKeeper$Text;") (List.mem_of_getElem? (i := 82) rfl)) (fun _ h9 => h9) rfl hin rfl (by decide +kernel) rfl rfl (Nat.le_of_ble_eq_true rfl) d_K_init_21 (fun H locs hP hD hS => ?_)
  replace hP : va_P (dC, dI) vwCl [(h0, .inr (0, [.ref q_1, .ref q_3, .null, .null, .null, .null, .null, .int 0, .int 0])), (q_1, .inl (cA_2, 8, .inr (.inr (.inr (.inr (fun _ => none)))))), (q_3, .inr (1, [.ref q1_4, .int 0])), (q1_4, .inl (cB_5, 256, .inl (fun _ => 0)))] H := hP
  replace hD : va_D A [(h0, .inr (0, [.ref q_1, .ref q_3, .null, .null, .null, .null, .null, .int 0, .int 0])), (q_1, .inl (cA_2, 8, .inr (.inr (.inr (.inr (fun _ => none)))))), (q_3, .inr (1, [.ref q1_4, .int 0])), (q1_4, .inl (cB_5, 256, .inl (fun _ => 0)))] := hD
  refine lv_aload_n hx hb d_K_init_24 rfl (lv_at hl 0 rfl) ?_
  refine va_new (ci := 1) (fs := [.null, .int 0]) (C := R_T) (T := F_T) (N := 2) hx hb hw0 in_T ft_T tk_T hown (hw0 (.classLink R_K 15 R_T) (List.mem_of_getElem? (i := 80) rfl)) (hw0 (.instantiable R_T 2) (List.mem_of_getElem? (i := 68) rfl)) (hw0 (.initialized R_T) (List.mem_of_getElem? (i := 69) rfl)) hK hP hD hS hA rfl (fun j hj => nw_T j hj) (by decide +kernel) (by decide +kernel) d_K_init_25 (fun q_7 H hP hD hS => ?_)
  replace hP : va_P (dC, dI) vwCl [(h0, .inr (0, [.ref q_1, .ref q_3, .null, .null, .null, .null, .null, .int 0, .int 0])), (q_1, .inl (cA_2, 8, .inr (.inr (.inr (.inr (fun _ => none)))))), (q_3, .inr (1, [.ref q1_4, .int 0])), (q1_4, .inl (cB_5, 256, .inl (fun _ => 0))), (q_7, .inr (1, [.null, .int 0]))] H := hP
  replace hD : va_D A [(h0, .inr (0, [.ref q_1, .ref q_3, .null, .null, .null, .null, .null, .int 0, .int 0])), (q_1, .inl (cA_2, 8, .inr (.inr (.inr (.inr (fun _ => none)))))), (q_3, .inr (1, [.ref q1_4, .int 0])), (q1_4, .inl (cB_5, 256, .inl (fun _ => 0))), (q_7, .inr (1, [.null, .int 0]))] := hD
  refine W.widen (k := 4) (n := 268) (by decide +kernel) (by decide +kernel) ?_
  refine lv_dup hx hb d_K_init_28 rfl ?_
  have hPc := hP.sub (ws' := [(q_7, .inr (1, [.null, .int 0]))]) [4] rfl
  have hKc := hK.sub (tys' := []) [] rfl
  have hDc := hD.sub (ws' := [(q_7, .inr (1, [.null, .int 0]))]) [4] (by decide) rfl
  have hFc := va_free (wc := [(q_7, .inr (1, [.null, .int 0]))]) hD hS hA [4] rfl
  refine va_callv (va_runI (As := []) (rest := [.ref q_7, .ref h0]) ⟨hx, hb, hml, hown, hw0⟩ (c_Text_init l dC dI H.size q_7) (cwI 0 hw0 (gd_I 70 rfl) rfl rfl rfl (hw0 (.initialized R_T) (List.mem_of_getElem? (i := 69) rfl)) (hw0 (.methodLink R_K 17 y_T_init) (List.mem_of_getElem? (i := 81) rfl)) (hw0 (.instanceMethod y_T_init) (List.mem_of_getElem? (i := 72) rfl)) rfl (by decide +kernel) ⟨by decide +kernel, by decide +kernel⟩) (prS_E hPc hKc hDc hN) rfl rfl hl.1 rfl (lv_room (Nat.le_of_ble_eq_true rfl)) d_K_init_29 ⟨by decide +kernel, by decide +kernel⟩) hS (fun q _ h => hFc q h) hFc (fun u t H1 locs ht hvm hw hB hz1 hk1 hS => ?_)
  obtain ⟨q1_8, cB_9, hP1, hK1, hD1⟩ := hB
  rw [ht] at hP1
  have hK1 := va_K.moved hvm.symm hK1
  try dsimp only at hw
  obtain ⟨hP, hD⟩ := va_join (wr := [(h0, .inr (0, [.ref q_1, .ref q_3, .null, .null, .null, .null, .null, .int 0, .int 0])), (q_1, .inl (cA_2, 8, .inr (.inr (.inr (.inr (fun _ => none)))))), (q_3, .inr (1, [.ref q1_4, .int 0])), (q1_4, .inl (cB_5, 256, .inl (fun _ => 0)))]) (w1 := [(q_7, .inr (1, [.ref q1_8, .int 0])), (q1_8, .inl (cB_9, 256, .inl (fun _ => 0)))]) hP hD [4] [0, 1, 2, 3] rfl rfl (by decide) (by decide) hk1 hFc hP1 hD1
  have hK := hK.app (hK1.sub (tys' := [(cB_9, .byte)]) [0] rfl)
  generalize H1 = H at hP hS ⊢
  replace hP : va_P (dC, dI) vwCl [(h0, .inr (0, [.ref q_1, .ref q_3, .null, .null, .null, .null, .null, .int 0, .int 0])), (q_1, .inl (cA_2, 8, .inr (.inr (.inr (.inr (fun _ => none)))))), (q_3, .inr (1, [.ref q1_4, .int 0])), (q1_4, .inl (cB_5, 256, .inl (fun _ => 0))), (q_7, .inr (1, [.ref q1_8, .int 0])), (q1_8, .inl (cB_9, 256, .inl (fun _ => 0)))] H := hP
  replace hD : va_D A [(h0, .inr (0, [.ref q_1, .ref q_3, .null, .null, .null, .null, .null, .int 0, .int 0])), (q_1, .inl (cA_2, 8, .inr (.inr (.inr (.inr (fun _ => none)))))), (q_3, .inr (1, [.ref q1_4, .int 0])), (q1_4, .inl (cB_5, 256, .inl (fun _ => 0))), (q_7, .inr (1, [.ref q1_8, .int 0])), (q1_8, .inl (cB_9, 256, .inl (fun _ => 0)))] := hD
  replace hK : va_K (dC, dI) vwCl [(cA_2, .object R_D), (cB_5, .byte), (cB_9, .byte)] s := hK
  refine W.widen (k := 5) (n := 524) (by decide +kernel) (by decide +kernel) ?_
  refine va_putF (D := (dC, dI)) (ci := 0) (v := .ref q_7) (ty := (.object "TextKeeper$Text")) (C := R_K) (T := F_K) (N := 9) hx hb hw0 in_K ft_K tk_K nk_K hown hK hP hD hS 0 rfl rfl 2 (by decide) (hw0 (.fieldLink R_K 22 "TextKeeper" "fetched" "LTextKeeper$Text;") (List.mem_of_getElem? (i := 83) rfl)) (fun _ h9 => h9) rfl hin rfl (by decide +kernel) rfl rfl (Nat.le_of_ble_eq_true rfl) d_K_init_32 (fun H locs hP hD hS => ?_)
  replace hP : va_P (dC, dI) vwCl [(h0, .inr (0, [.ref q_1, .ref q_3, .ref q_7, .null, .null, .null, .null, .int 0, .int 0])), (q_1, .inl (cA_2, 8, .inr (.inr (.inr (.inr (fun _ => none)))))), (q_3, .inr (1, [.ref q1_4, .int 0])), (q1_4, .inl (cB_5, 256, .inl (fun _ => 0))), (q_7, .inr (1, [.ref q1_8, .int 0])), (q1_8, .inl (cB_9, 256, .inl (fun _ => 0)))] H := hP
  replace hD : va_D A [(h0, .inr (0, [.ref q_1, .ref q_3, .ref q_7, .null, .null, .null, .null, .int 0, .int 0])), (q_1, .inl (cA_2, 8, .inr (.inr (.inr (.inr (fun _ => none)))))), (q_3, .inr (1, [.ref q1_4, .int 0])), (q1_4, .inl (cB_5, 256, .inl (fun _ => 0))), (q_7, .inr (1, [.ref q1_8, .int 0])), (q1_8, .inl (cB_9, 256, .inl (fun _ => 0)))] := hD
  refine lv_aload_n hx hb d_K_init_35 rfl (lv_at hl 0 rfl) ?_
  refine va_new (ci := 1) (fs := [.null, .int 0]) (C := R_T) (T := F_T) (N := 2) hx hb hw0 in_T ft_T tk_T hown (hw0 (.classLink R_K 15 R_T) (List.mem_of_getElem? (i := 80) rfl)) (hw0 (.instantiable R_T 2) (List.mem_of_getElem? (i := 68) rfl)) (hw0 (.initialized R_T) (List.mem_of_getElem? (i := 69) rfl)) hK hP hD hS hA rfl (fun j hj => nw_T j hj) (by decide +kernel) (by decide +kernel) d_K_init_36 (fun q_11 H hP hD hS => ?_)
  replace hP : va_P (dC, dI) vwCl [(h0, .inr (0, [.ref q_1, .ref q_3, .ref q_7, .null, .null, .null, .null, .int 0, .int 0])), (q_1, .inl (cA_2, 8, .inr (.inr (.inr (.inr (fun _ => none)))))), (q_3, .inr (1, [.ref q1_4, .int 0])), (q1_4, .inl (cB_5, 256, .inl (fun _ => 0))), (q_7, .inr (1, [.ref q1_8, .int 0])), (q1_8, .inl (cB_9, 256, .inl (fun _ => 0))), (q_11, .inr (1, [.null, .int 0]))] H := hP
  replace hD : va_D A [(h0, .inr (0, [.ref q_1, .ref q_3, .ref q_7, .null, .null, .null, .null, .int 0, .int 0])), (q_1, .inl (cA_2, 8, .inr (.inr (.inr (.inr (fun _ => none)))))), (q_3, .inr (1, [.ref q1_4, .int 0])), (q1_4, .inl (cB_5, 256, .inl (fun _ => 0))), (q_7, .inr (1, [.ref q1_8, .int 0])), (q1_8, .inl (cB_9, 256, .inl (fun _ => 0))), (q_11, .inr (1, [.null, .int 0]))] := hD
  refine W.widen (k := 6) (n := 526) (by decide +kernel) (by decide +kernel) ?_
  refine lv_dup hx hb d_K_init_39 rfl ?_
  have hPc := hP.sub (ws' := [(q_11, .inr (1, [.null, .int 0]))]) [6] rfl
  have hKc := hK.sub (tys' := []) [] rfl
  have hDc := hD.sub (ws' := [(q_11, .inr (1, [.null, .int 0]))]) [6] (by decide) rfl
  have hFc := va_free (wc := [(q_11, .inr (1, [.null, .int 0]))]) hD hS hA [6] rfl
  refine va_callv (va_runI (As := []) (rest := [.ref q_11, .ref h0]) ⟨hx, hb, hml, hown, hw0⟩ (c_Text_init l dC dI H.size q_11) (cwI 0 hw0 (gd_I 70 rfl) rfl rfl rfl (hw0 (.initialized R_T) (List.mem_of_getElem? (i := 69) rfl)) (hw0 (.methodLink R_K 17 y_T_init) (List.mem_of_getElem? (i := 81) rfl)) (hw0 (.instanceMethod y_T_init) (List.mem_of_getElem? (i := 72) rfl)) rfl (by decide +kernel) ⟨by decide +kernel, by decide +kernel⟩) (prS_E hPc hKc hDc hN) rfl rfl hl.1 rfl (lv_room (Nat.le_of_ble_eq_true rfl)) d_K_init_40 ⟨by decide +kernel, by decide +kernel⟩) hS (fun q _ h => hFc q h) hFc (fun u t H1 locs ht hvm hw hB hz1 hk1 hS => ?_)
  obtain ⟨q1_12, cB_13, hP1, hK1, hD1⟩ := hB
  rw [ht] at hP1
  have hK1 := va_K.moved hvm.symm hK1
  try dsimp only at hw
  obtain ⟨hP, hD⟩ := va_join (wr := [(h0, .inr (0, [.ref q_1, .ref q_3, .ref q_7, .null, .null, .null, .null, .int 0, .int 0])), (q_1, .inl (cA_2, 8, .inr (.inr (.inr (.inr (fun _ => none)))))), (q_3, .inr (1, [.ref q1_4, .int 0])), (q1_4, .inl (cB_5, 256, .inl (fun _ => 0))), (q_7, .inr (1, [.ref q1_8, .int 0])), (q1_8, .inl (cB_9, 256, .inl (fun _ => 0)))]) (w1 := [(q_11, .inr (1, [.ref q1_12, .int 0])), (q1_12, .inl (cB_13, 256, .inl (fun _ => 0)))]) hP hD [6] [0, 1, 2, 3, 4, 5] rfl rfl (by decide) (by decide) hk1 hFc hP1 hD1
  have hK := hK.app (hK1.sub (tys' := [(cB_13, .byte)]) [0] rfl)
  generalize H1 = H at hP hS ⊢
  replace hP : va_P (dC, dI) vwCl [(h0, .inr (0, [.ref q_1, .ref q_3, .ref q_7, .null, .null, .null, .null, .int 0, .int 0])), (q_1, .inl (cA_2, 8, .inr (.inr (.inr (.inr (fun _ => none)))))), (q_3, .inr (1, [.ref q1_4, .int 0])), (q1_4, .inl (cB_5, 256, .inl (fun _ => 0))), (q_7, .inr (1, [.ref q1_8, .int 0])), (q1_8, .inl (cB_9, 256, .inl (fun _ => 0))), (q_11, .inr (1, [.ref q1_12, .int 0])), (q1_12, .inl (cB_13, 256, .inl (fun _ => 0)))] H := hP
  replace hD : va_D A [(h0, .inr (0, [.ref q_1, .ref q_3, .ref q_7, .null, .null, .null, .null, .int 0, .int 0])), (q_1, .inl (cA_2, 8, .inr (.inr (.inr (.inr (fun _ => none)))))), (q_3, .inr (1, [.ref q1_4, .int 0])), (q1_4, .inl (cB_5, 256, .inl (fun _ => 0))), (q_7, .inr (1, [.ref q1_8, .int 0])), (q1_8, .inl (cB_9, 256, .inl (fun _ => 0))), (q_11, .inr (1, [.ref q1_12, .int 0])), (q1_12, .inl (cB_13, 256, .inl (fun _ => 0)))] := hD
  replace hK : va_K (dC, dI) vwCl [(cA_2, .object R_D), (cB_5, .byte), (cB_9, .byte), (cB_13, .byte)] s := hK
  refine W.widen (k := 7) (n := 782) (by decide +kernel) (by decide +kernel) ?_
  refine va_putF (D := (dC, dI)) (ci := 0) (v := .ref q_11) (ty := (.object "TextKeeper$Text")) (C := R_K) (T := F_K) (N := 9) hx hb hw0 in_K ft_K tk_K nk_K hown hK hP hD hS 0 rfl rfl 3 (by decide) (hw0 (.fieldLink R_K 25 "TextKeeper" "compared" "LTextKeeper$Text;") (List.mem_of_getElem? (i := 84) rfl)) (fun _ h9 => h9) rfl hin rfl (by decide +kernel) rfl rfl (Nat.le_of_ble_eq_true rfl) d_K_init_43 (fun H locs hP hD hS => ?_)
  replace hP : va_P (dC, dI) vwCl [(h0, .inr (0, [.ref q_1, .ref q_3, .ref q_7, .ref q_11, .null, .null, .null, .int 0, .int 0])), (q_1, .inl (cA_2, 8, .inr (.inr (.inr (.inr (fun _ => none)))))), (q_3, .inr (1, [.ref q1_4, .int 0])), (q1_4, .inl (cB_5, 256, .inl (fun _ => 0))), (q_7, .inr (1, [.ref q1_8, .int 0])), (q1_8, .inl (cB_9, 256, .inl (fun _ => 0))), (q_11, .inr (1, [.ref q1_12, .int 0])), (q1_12, .inl (cB_13, 256, .inl (fun _ => 0)))] H := hP
  replace hD : va_D A [(h0, .inr (0, [.ref q_1, .ref q_3, .ref q_7, .ref q_11, .null, .null, .null, .int 0, .int 0])), (q_1, .inl (cA_2, 8, .inr (.inr (.inr (.inr (fun _ => none)))))), (q_3, .inr (1, [.ref q1_4, .int 0])), (q1_4, .inl (cB_5, 256, .inl (fun _ => 0))), (q_7, .inr (1, [.ref q1_8, .int 0])), (q1_8, .inl (cB_9, 256, .inl (fun _ => 0))), (q_11, .inr (1, [.ref q1_12, .int 0])), (q1_12, .inl (cB_13, 256, .inl (fun _ => 0)))] := hD
  refine lv_aload_n hx hb d_K_init_46 rfl (lv_at hl 0 rfl) ?_
  refine va_new (ci := 2) (fs := [.null, .null, .null, .int 0]) (C := R_M) (T := F_M) (N := 4) hx hb hw0 in_M ft_M tk_M hown (hw0 (.classLink R_K 28 R_M) (List.mem_of_getElem? (i := 85) rfl)) (hw0 (.instantiable R_M 4) (List.mem_of_getElem? (i := 86) rfl)) (hw0 (.initialized R_M) (List.mem_of_getElem? (i := 87) rfl)) hK hP hD hS hA rfl (fun j hj => nw_M j hj) (by decide +kernel) (by decide +kernel) d_K_init_47 (fun q_15 H hP hD hS => ?_)
  replace hP : va_P (dC, dI) vwCl [(h0, .inr (0, [.ref q_1, .ref q_3, .ref q_7, .ref q_11, .null, .null, .null, .int 0, .int 0])), (q_1, .inl (cA_2, 8, .inr (.inr (.inr (.inr (fun _ => none)))))), (q_3, .inr (1, [.ref q1_4, .int 0])), (q1_4, .inl (cB_5, 256, .inl (fun _ => 0))), (q_7, .inr (1, [.ref q1_8, .int 0])), (q1_8, .inl (cB_9, 256, .inl (fun _ => 0))), (q_11, .inr (1, [.ref q1_12, .int 0])), (q1_12, .inl (cB_13, 256, .inl (fun _ => 0))), (q_15, .inr (2, [.null, .null, .null, .int 0]))] H := hP
  replace hD : va_D A [(h0, .inr (0, [.ref q_1, .ref q_3, .ref q_7, .ref q_11, .null, .null, .null, .int 0, .int 0])), (q_1, .inl (cA_2, 8, .inr (.inr (.inr (.inr (fun _ => none)))))), (q_3, .inr (1, [.ref q1_4, .int 0])), (q1_4, .inl (cB_5, 256, .inl (fun _ => 0))), (q_7, .inr (1, [.ref q1_8, .int 0])), (q1_8, .inl (cB_9, 256, .inl (fun _ => 0))), (q_11, .inr (1, [.ref q1_12, .int 0])), (q1_12, .inl (cB_13, 256, .inl (fun _ => 0))), (q_15, .inr (2, [.null, .null, .null, .int 0]))] := hD
  refine W.widen (k := 8) (n := 786) (by decide +kernel) (by decide +kernel) ?_
  refine lv_dup hx hb d_K_init_50 rfl ?_
  have hPc := hP.sub (ws' := [(q_15, .inr (2, [.null, .null, .null, .int 0]))]) [8] rfl
  have hKc := hK.sub (tys' := []) [] rfl
  have hDc := hD.sub (ws' := [(q_15, .inr (2, [.null, .null, .null, .int 0]))]) [8] (by decide) rfl
  have hFc := va_free (wc := [(q_15, .inr (2, [.null, .null, .null, .int 0]))]) hD hS hA [8] rfl
  refine va_callv (va_runI (As := []) (rest := [.ref q_15, .ref h0]) ⟨hx, hb, hml, hown, hw0⟩ (c_Maker_init l dC dI H.size q_15) (cwI 0 hw0 (gd_I 88 rfl) rfl rfl rfl (hw0 (.initialized R_M) (List.mem_of_getElem? (i := 87) rfl)) (hw0 (.methodLink R_K 30 y_M_init) (List.mem_of_getElem? (i := 89) rfl)) (hw0 (.instanceMethod y_M_init) (List.mem_of_getElem? (i := 90) rfl)) rfl (by decide +kernel) ⟨by decide +kernel, by decide +kernel⟩) (prS_E hPc hKc hDc hN) rfl rfl hl.1 rfl (lv_room (Nat.le_of_ble_eq_true rfl)) d_K_init_51 ⟨by decide +kernel, by decide +kernel⟩) hS (fun q _ h => hFc q h) hFc (fun u t H1 locs ht hvm hw hB hz1 hk1 hS => ?_)
  obtain ⟨q1_16, q2_17, q3_18, hP1, hK1, hD1⟩ := hB
  rw [ht] at hP1
  have hK1 := va_K.moved hvm.symm hK1
  try dsimp only at hw
  obtain ⟨hP, hD⟩ := va_join (wr := [(h0, .inr (0, [.ref q_1, .ref q_3, .ref q_7, .ref q_11, .null, .null, .null, .int 0, .int 0])), (q_1, .inl (cA_2, 8, .inr (.inr (.inr (.inr (fun _ => none)))))), (q_3, .inr (1, [.ref q1_4, .int 0])), (q1_4, .inl (cB_5, 256, .inl (fun _ => 0))), (q_7, .inr (1, [.ref q1_8, .int 0])), (q1_8, .inl (cB_9, 256, .inl (fun _ => 0))), (q_11, .inr (1, [.ref q1_12, .int 0])), (q1_12, .inl (cB_13, 256, .inl (fun _ => 0)))]) (w1 := [(q_15, .inr (2, [.ref q1_16, .ref q2_17, .ref q3_18, .int 0]))]) hP hD [8] [0, 1, 2, 3, 4, 5, 6, 7] rfl rfl (by decide) (by decide) hk1 hFc hP1 hD1
  generalize H1 = H at hP hS ⊢
  replace hP : va_P (dC, dI) vwCl [(h0, .inr (0, [.ref q_1, .ref q_3, .ref q_7, .ref q_11, .null, .null, .null, .int 0, .int 0])), (q_1, .inl (cA_2, 8, .inr (.inr (.inr (.inr (fun _ => none)))))), (q_3, .inr (1, [.ref q1_4, .int 0])), (q1_4, .inl (cB_5, 256, .inl (fun _ => 0))), (q_7, .inr (1, [.ref q1_8, .int 0])), (q1_8, .inl (cB_9, 256, .inl (fun _ => 0))), (q_11, .inr (1, [.ref q1_12, .int 0])), (q1_12, .inl (cB_13, 256, .inl (fun _ => 0))), (q_15, .inr (2, [.ref q1_16, .ref q2_17, .ref q3_18, .int 0]))] H := hP
  replace hD : va_D A [(h0, .inr (0, [.ref q_1, .ref q_3, .ref q_7, .ref q_11, .null, .null, .null, .int 0, .int 0])), (q_1, .inl (cA_2, 8, .inr (.inr (.inr (.inr (fun _ => none)))))), (q_3, .inr (1, [.ref q1_4, .int 0])), (q1_4, .inl (cB_5, 256, .inl (fun _ => 0))), (q_7, .inr (1, [.ref q1_8, .int 0])), (q1_8, .inl (cB_9, 256, .inl (fun _ => 0))), (q_11, .inr (1, [.ref q1_12, .int 0])), (q1_12, .inl (cB_13, 256, .inl (fun _ => 0))), (q_15, .inr (2, [.ref q1_16, .ref q2_17, .ref q3_18, .int 0]))] := hD
  replace hK : va_K (dC, dI) vwCl [(cA_2, .object R_D), (cB_5, .byte), (cB_9, .byte), (cB_13, .byte)] s := hK
  refine W.widen (k := 13) (n := 1302) (by decide +kernel) (by decide +kernel) ?_
  refine va_putF (D := (dC, dI)) (ci := 0) (v := .ref q_15) (ty := (.object "TextKeeper$Maker")) (C := R_K) (T := F_K) (N := 9) hx hb hw0 in_K ft_K tk_K nk_K hown hK hP hD hS 0 rfl rfl 4 (by decide) (hw0 (.fieldLink R_K 31 "TextKeeper" "maker" "LTextKeeper$Maker;") (List.mem_of_getElem? (i := 91) rfl)) (fun _ h9 => h9) rfl hin rfl (by decide +kernel) rfl rfl (Nat.le_of_ble_eq_true rfl) d_K_init_54 (fun H locs hP hD hS => ?_)
  replace hP : va_P (dC, dI) vwCl [(h0, .inr (0, [.ref q_1, .ref q_3, .ref q_7, .ref q_11, .ref q_15, .null, .null, .int 0, .int 0])), (q_1, .inl (cA_2, 8, .inr (.inr (.inr (.inr (fun _ => none)))))), (q_3, .inr (1, [.ref q1_4, .int 0])), (q1_4, .inl (cB_5, 256, .inl (fun _ => 0))), (q_7, .inr (1, [.ref q1_8, .int 0])), (q1_8, .inl (cB_9, 256, .inl (fun _ => 0))), (q_11, .inr (1, [.ref q1_12, .int 0])), (q1_12, .inl (cB_13, 256, .inl (fun _ => 0))), (q_15, .inr (2, [.ref q1_16, .ref q2_17, .ref q3_18, .int 0]))] H := hP
  replace hD : va_D A [(h0, .inr (0, [.ref q_1, .ref q_3, .ref q_7, .ref q_11, .ref q_15, .null, .null, .int 0, .int 0])), (q_1, .inl (cA_2, 8, .inr (.inr (.inr (.inr (fun _ => none)))))), (q_3, .inr (1, [.ref q1_4, .int 0])), (q1_4, .inl (cB_5, 256, .inl (fun _ => 0))), (q_7, .inr (1, [.ref q1_8, .int 0])), (q1_8, .inl (cB_9, 256, .inl (fun _ => 0))), (q_11, .inr (1, [.ref q1_12, .int 0])), (q1_12, .inl (cB_13, 256, .inl (fun _ => 0))), (q_15, .inr (2, [.ref q1_16, .ref q2_17, .ref q3_18, .int 0]))] := hD
  refine lv_aload_n hx hb d_K_init_57 rfl (lv_at hl 0 rfl) ?_
  refine va_new (ci := 3) (fs := [.null, .int 0]) (C := R_W) (T := F_W) (N := 2) hx hb hw0 in_W ft_W tk_W hown (hw0 (.classLink R_K 35 R_W) (List.mem_of_getElem? (i := 92) rfl)) (hw0 (.instantiable R_W 2) (List.mem_of_getElem? (i := 93) rfl)) (hw0 (.initialized R_W) (List.mem_of_getElem? (i := 94) rfl)) hK hP hD hS hA rfl (fun j hj => nw_W j hj) (by decide +kernel) (by decide +kernel) d_K_init_58 (fun q_20 H hP hD hS => ?_)
  replace hP : va_P (dC, dI) vwCl [(h0, .inr (0, [.ref q_1, .ref q_3, .ref q_7, .ref q_11, .ref q_15, .null, .null, .int 0, .int 0])), (q_1, .inl (cA_2, 8, .inr (.inr (.inr (.inr (fun _ => none)))))), (q_3, .inr (1, [.ref q1_4, .int 0])), (q1_4, .inl (cB_5, 256, .inl (fun _ => 0))), (q_7, .inr (1, [.ref q1_8, .int 0])), (q1_8, .inl (cB_9, 256, .inl (fun _ => 0))), (q_11, .inr (1, [.ref q1_12, .int 0])), (q1_12, .inl (cB_13, 256, .inl (fun _ => 0))), (q_15, .inr (2, [.ref q1_16, .ref q2_17, .ref q3_18, .int 0])), (q_20, .inr (3, [.null, .int 0]))] H := hP
  replace hD : va_D A [(h0, .inr (0, [.ref q_1, .ref q_3, .ref q_7, .ref q_11, .ref q_15, .null, .null, .int 0, .int 0])), (q_1, .inl (cA_2, 8, .inr (.inr (.inr (.inr (fun _ => none)))))), (q_3, .inr (1, [.ref q1_4, .int 0])), (q1_4, .inl (cB_5, 256, .inl (fun _ => 0))), (q_7, .inr (1, [.ref q1_8, .int 0])), (q1_8, .inl (cB_9, 256, .inl (fun _ => 0))), (q_11, .inr (1, [.ref q1_12, .int 0])), (q1_12, .inl (cB_13, 256, .inl (fun _ => 0))), (q_15, .inr (2, [.ref q1_16, .ref q2_17, .ref q3_18, .int 0])), (q_20, .inr (3, [.null, .int 0]))] := hD
  refine W.widen (k := 14) (n := 1304) (by decide +kernel) (by decide +kernel) ?_
  refine lv_dup hx hb d_K_init_61 rfl ?_
  have hPc := hP.sub (ws' := [(q_20, .inr (3, [.null, .int 0]))]) [9] rfl
  have hKc := hK.sub (tys' := []) [] rfl
  have hDc := hD.sub (ws' := [(q_20, .inr (3, [.null, .int 0]))]) [9] (by decide) rfl
  have hFc := va_free (wc := [(q_20, .inr (3, [.null, .int 0]))]) hD hS hA [9] rfl
  refine va_callv (va_runI (As := []) (rest := [.ref q_20, .ref h0]) ⟨hx, hb, hml, hown, hw0⟩ (c_PieceWriter_init l dC dI H.size q_20) (cwI 0 hw0 (gd_I 95 rfl) rfl rfl rfl (hw0 (.initialized R_W) (List.mem_of_getElem? (i := 94) rfl)) (hw0 (.methodLink R_K 37 y_W_init) (List.mem_of_getElem? (i := 96) rfl)) (hw0 (.instanceMethod y_W_init) (List.mem_of_getElem? (i := 97) rfl)) rfl (by decide +kernel) ⟨by decide +kernel, by decide +kernel⟩) (prS_E hPc hKc hDc hN) rfl rfl hl.1 rfl (lv_room (Nat.le_of_ble_eq_true rfl)) d_K_init_62 ⟨by decide +kernel, by decide +kernel⟩) hS (fun q _ h => hFc q h) hFc (fun u t H1 locs ht hvm hw hB hz1 hk1 hS => ?_)
  obtain ⟨q1_21, hP1, hK1, hD1⟩ := hB
  rw [ht] at hP1
  have hK1 := va_K.moved hvm.symm hK1
  try dsimp only at hw
  obtain ⟨hP, hD⟩ := va_join (wr := [(h0, .inr (0, [.ref q_1, .ref q_3, .ref q_7, .ref q_11, .ref q_15, .null, .null, .int 0, .int 0])), (q_1, .inl (cA_2, 8, .inr (.inr (.inr (.inr (fun _ => none)))))), (q_3, .inr (1, [.ref q1_4, .int 0])), (q1_4, .inl (cB_5, 256, .inl (fun _ => 0))), (q_7, .inr (1, [.ref q1_8, .int 0])), (q1_8, .inl (cB_9, 256, .inl (fun _ => 0))), (q_11, .inr (1, [.ref q1_12, .int 0])), (q1_12, .inl (cB_13, 256, .inl (fun _ => 0))), (q_15, .inr (2, [.ref q1_16, .ref q2_17, .ref q3_18, .int 0]))]) (w1 := [(q_20, .inr (3, [.ref q1_21, .int 0]))]) hP hD [9] [0, 1, 2, 3, 4, 5, 6, 7, 8] rfl rfl (by decide) (by decide) hk1 hFc hP1 hD1
  generalize H1 = H at hP hS ⊢
  replace hP : va_P (dC, dI) vwCl [(h0, .inr (0, [.ref q_1, .ref q_3, .ref q_7, .ref q_11, .ref q_15, .null, .null, .int 0, .int 0])), (q_1, .inl (cA_2, 8, .inr (.inr (.inr (.inr (fun _ => none)))))), (q_3, .inr (1, [.ref q1_4, .int 0])), (q1_4, .inl (cB_5, 256, .inl (fun _ => 0))), (q_7, .inr (1, [.ref q1_8, .int 0])), (q1_8, .inl (cB_9, 256, .inl (fun _ => 0))), (q_11, .inr (1, [.ref q1_12, .int 0])), (q1_12, .inl (cB_13, 256, .inl (fun _ => 0))), (q_15, .inr (2, [.ref q1_16, .ref q2_17, .ref q3_18, .int 0])), (q_20, .inr (3, [.ref q1_21, .int 0]))] H := hP
  replace hD : va_D A [(h0, .inr (0, [.ref q_1, .ref q_3, .ref q_7, .ref q_11, .ref q_15, .null, .null, .int 0, .int 0])), (q_1, .inl (cA_2, 8, .inr (.inr (.inr (.inr (fun _ => none)))))), (q_3, .inr (1, [.ref q1_4, .int 0])), (q1_4, .inl (cB_5, 256, .inl (fun _ => 0))), (q_7, .inr (1, [.ref q1_8, .int 0])), (q1_8, .inl (cB_9, 256, .inl (fun _ => 0))), (q_11, .inr (1, [.ref q1_12, .int 0])), (q1_12, .inl (cB_13, 256, .inl (fun _ => 0))), (q_15, .inr (2, [.ref q1_16, .ref q2_17, .ref q3_18, .int 0])), (q_20, .inr (3, [.ref q1_21, .int 0]))] := hD
  replace hK : va_K (dC, dI) vwCl [(cA_2, .object R_D), (cB_5, .byte), (cB_9, .byte), (cB_13, .byte)] s := hK
  refine W.widen (k := 15) (n := 1816) (by decide +kernel) (by decide +kernel) ?_
  refine va_putF (D := (dC, dI)) (ci := 0) (v := .ref q_20) (ty := (.object "TextKeeper$PieceWriter")) (C := R_K) (T := F_K) (N := 9) hx hb hw0 in_K ft_K tk_K nk_K hown hK hP hD hS 0 rfl rfl 5 (by decide) (hw0 (.fieldLink R_K 38 "TextKeeper" "writer" "LTextKeeper$PieceWriter;") (List.mem_of_getElem? (i := 98) rfl)) (fun _ h9 => h9) rfl hin rfl (by decide +kernel) rfl rfl (Nat.le_of_ble_eq_true rfl) d_K_init_65 (fun H locs hP hD hS => ?_)
  replace hP : va_P (dC, dI) vwCl [(h0, .inr (0, [.ref q_1, .ref q_3, .ref q_7, .ref q_11, .ref q_15, .ref q_20, .null, .int 0, .int 0])), (q_1, .inl (cA_2, 8, .inr (.inr (.inr (.inr (fun _ => none)))))), (q_3, .inr (1, [.ref q1_4, .int 0])), (q1_4, .inl (cB_5, 256, .inl (fun _ => 0))), (q_7, .inr (1, [.ref q1_8, .int 0])), (q1_8, .inl (cB_9, 256, .inl (fun _ => 0))), (q_11, .inr (1, [.ref q1_12, .int 0])), (q1_12, .inl (cB_13, 256, .inl (fun _ => 0))), (q_15, .inr (2, [.ref q1_16, .ref q2_17, .ref q3_18, .int 0])), (q_20, .inr (3, [.ref q1_21, .int 0]))] H := hP
  replace hD : va_D A [(h0, .inr (0, [.ref q_1, .ref q_3, .ref q_7, .ref q_11, .ref q_15, .ref q_20, .null, .int 0, .int 0])), (q_1, .inl (cA_2, 8, .inr (.inr (.inr (.inr (fun _ => none)))))), (q_3, .inr (1, [.ref q1_4, .int 0])), (q1_4, .inl (cB_5, 256, .inl (fun _ => 0))), (q_7, .inr (1, [.ref q1_8, .int 0])), (q1_8, .inl (cB_9, 256, .inl (fun _ => 0))), (q_11, .inr (1, [.ref q1_12, .int 0])), (q1_12, .inl (cB_13, 256, .inl (fun _ => 0))), (q_15, .inr (2, [.ref q1_16, .ref q2_17, .ref q3_18, .int 0])), (q_20, .inr (3, [.ref q1_21, .int 0]))] := hD
  refine lv_aload_n hx hb d_K_init_68 rfl (lv_at hl 0 rfl) ?_
  refine va_new (ci := 4) (fs := [.int 0, .int 0, .int 0]) (C := R_P) (T := F_P) (N := 3) hx hb hw0 in_P ft_P tk_P hown (hw0 (.classLink R_K 42 R_P) (List.mem_of_getElem? (i := 99) rfl)) (hw0 (.instantiable R_P 3) (List.mem_of_getElem? (i := 100) rfl)) (hw0 (.initialized R_P) (List.mem_of_getElem? (i := 101) rfl)) hK hP hD hS hA rfl (fun j hj => nw_P j hj) (by decide +kernel) (by decide +kernel) d_K_init_69 (fun q_23 H hP hD hS => ?_)
  replace hP : va_P (dC, dI) vwCl [(h0, .inr (0, [.ref q_1, .ref q_3, .ref q_7, .ref q_11, .ref q_15, .ref q_20, .null, .int 0, .int 0])), (q_1, .inl (cA_2, 8, .inr (.inr (.inr (.inr (fun _ => none)))))), (q_3, .inr (1, [.ref q1_4, .int 0])), (q1_4, .inl (cB_5, 256, .inl (fun _ => 0))), (q_7, .inr (1, [.ref q1_8, .int 0])), (q1_8, .inl (cB_9, 256, .inl (fun _ => 0))), (q_11, .inr (1, [.ref q1_12, .int 0])), (q1_12, .inl (cB_13, 256, .inl (fun _ => 0))), (q_15, .inr (2, [.ref q1_16, .ref q2_17, .ref q3_18, .int 0])), (q_20, .inr (3, [.ref q1_21, .int 0])), (q_23, .inr (4, [.int 0, .int 0, .int 0]))] H := hP
  replace hD : va_D A [(h0, .inr (0, [.ref q_1, .ref q_3, .ref q_7, .ref q_11, .ref q_15, .ref q_20, .null, .int 0, .int 0])), (q_1, .inl (cA_2, 8, .inr (.inr (.inr (.inr (fun _ => none)))))), (q_3, .inr (1, [.ref q1_4, .int 0])), (q1_4, .inl (cB_5, 256, .inl (fun _ => 0))), (q_7, .inr (1, [.ref q1_8, .int 0])), (q1_8, .inl (cB_9, 256, .inl (fun _ => 0))), (q_11, .inr (1, [.ref q1_12, .int 0])), (q1_12, .inl (cB_13, 256, .inl (fun _ => 0))), (q_15, .inr (2, [.ref q1_16, .ref q2_17, .ref q3_18, .int 0])), (q_20, .inr (3, [.ref q1_21, .int 0])), (q_23, .inr (4, [.int 0, .int 0, .int 0]))] := hD
  refine W.widen (k := 16) (n := 1819) (by decide +kernel) (by decide +kernel) ?_
  refine lv_dup hx hb d_K_init_72 rfl ?_
  have hPc := hP.sub (ws' := [(q_23, .inr (4, [.int 0, .int 0, .int 0]))]) [10] rfl
  have hKc := hK.sub (tys' := []) [] rfl
  have hDc := hD.sub (ws' := [(q_23, .inr (4, [.int 0, .int 0, .int 0]))]) [10] (by decide) rfl
  have hFc := va_free (wc := [(q_23, .inr (4, [.int 0, .int 0, .int 0]))]) hD hS hA [10] rfl
  refine va_callv (va_runI (As := []) (rest := [.ref q_23, .ref h0]) ⟨hx, hb, hml, hown, hw0⟩ (c_Power_init l dC dI H.size q_23) (cwI 0 hw0 (gd_I 102 rfl) rfl rfl rfl (hw0 (.initialized R_P) (List.mem_of_getElem? (i := 101) rfl)) (hw0 (.methodLink R_K 44 y_P_init) (List.mem_of_getElem? (i := 103) rfl)) (hw0 (.instanceMethod y_P_init) (List.mem_of_getElem? (i := 104) rfl)) rfl (by decide +kernel) ⟨by decide +kernel, by decide +kernel⟩) (prS_E hPc hKc hDc hN) rfl rfl hl.1 rfl (lv_room (Nat.le_of_ble_eq_true rfl)) d_K_init_73 ⟨by decide +kernel, by decide +kernel⟩) hS (fun q _ h => hFc q h) hFc (fun u t H1 locs ht hvm hw hB hz1 hk1 hS => ?_)
  obtain ⟨hP1, hK1, hD1⟩ := hB
  rw [ht] at hP1
  have hK1 := va_K.moved hvm.symm hK1
  try dsimp only at hw
  obtain ⟨hP, hD⟩ := va_join (wr := [(h0, .inr (0, [.ref q_1, .ref q_3, .ref q_7, .ref q_11, .ref q_15, .ref q_20, .null, .int 0, .int 0])), (q_1, .inl (cA_2, 8, .inr (.inr (.inr (.inr (fun _ => none)))))), (q_3, .inr (1, [.ref q1_4, .int 0])), (q1_4, .inl (cB_5, 256, .inl (fun _ => 0))), (q_7, .inr (1, [.ref q1_8, .int 0])), (q1_8, .inl (cB_9, 256, .inl (fun _ => 0))), (q_11, .inr (1, [.ref q1_12, .int 0])), (q1_12, .inl (cB_13, 256, .inl (fun _ => 0))), (q_15, .inr (2, [.ref q1_16, .ref q2_17, .ref q3_18, .int 0])), (q_20, .inr (3, [.ref q1_21, .int 0]))]) (w1 := [(q_23, .inr (4, [.int 0, .int 0, .int 0]))]) hP hD [10] [0, 1, 2, 3, 4, 5, 6, 7, 8, 9] rfl rfl (by decide) (by decide) hk1 hFc hP1 hD1
  generalize H1 = H at hP hS ⊢
  replace hP : va_P (dC, dI) vwCl [(h0, .inr (0, [.ref q_1, .ref q_3, .ref q_7, .ref q_11, .ref q_15, .ref q_20, .null, .int 0, .int 0])), (q_1, .inl (cA_2, 8, .inr (.inr (.inr (.inr (fun _ => none)))))), (q_3, .inr (1, [.ref q1_4, .int 0])), (q1_4, .inl (cB_5, 256, .inl (fun _ => 0))), (q_7, .inr (1, [.ref q1_8, .int 0])), (q1_8, .inl (cB_9, 256, .inl (fun _ => 0))), (q_11, .inr (1, [.ref q1_12, .int 0])), (q1_12, .inl (cB_13, 256, .inl (fun _ => 0))), (q_15, .inr (2, [.ref q1_16, .ref q2_17, .ref q3_18, .int 0])), (q_20, .inr (3, [.ref q1_21, .int 0])), (q_23, .inr (4, [.int 0, .int 0, .int 0]))] H := hP
  replace hD : va_D A [(h0, .inr (0, [.ref q_1, .ref q_3, .ref q_7, .ref q_11, .ref q_15, .ref q_20, .null, .int 0, .int 0])), (q_1, .inl (cA_2, 8, .inr (.inr (.inr (.inr (fun _ => none)))))), (q_3, .inr (1, [.ref q1_4, .int 0])), (q1_4, .inl (cB_5, 256, .inl (fun _ => 0))), (q_7, .inr (1, [.ref q1_8, .int 0])), (q1_8, .inl (cB_9, 256, .inl (fun _ => 0))), (q_11, .inr (1, [.ref q1_12, .int 0])), (q1_12, .inl (cB_13, 256, .inl (fun _ => 0))), (q_15, .inr (2, [.ref q1_16, .ref q2_17, .ref q3_18, .int 0])), (q_20, .inr (3, [.ref q1_21, .int 0])), (q_23, .inr (4, [.int 0, .int 0, .int 0]))] := hD
  replace hK : va_K (dC, dI) vwCl [(cA_2, .object R_D), (cB_5, .byte), (cB_9, .byte), (cB_13, .byte)] s := hK
  refine va_putF (D := (dC, dI)) (ci := 0) (v := .ref q_23) (ty := (.object "TextKeeper$Power")) (C := R_K) (T := F_K) (N := 9) hx hb hw0 in_K ft_K tk_K nk_K hown hK hP hD hS 0 rfl rfl 6 (by decide) (hw0 (.fieldLink R_K 45 "TextKeeper" "power" "LTextKeeper$Power;") (List.mem_of_getElem? (i := 105) rfl)) (fun _ h9 => h9) rfl hin rfl (by decide +kernel) rfl rfl (Nat.le_of_ble_eq_true rfl) d_K_init_76 (fun H locs hP hD hS => ?_)
  replace hP : va_P (dC, dI) vwCl [(h0, .inr (0, [.ref q_1, .ref q_3, .ref q_7, .ref q_11, .ref q_15, .ref q_20, .ref q_23, .int 0, .int 0])), (q_1, .inl (cA_2, 8, .inr (.inr (.inr (.inr (fun _ => none)))))), (q_3, .inr (1, [.ref q1_4, .int 0])), (q1_4, .inl (cB_5, 256, .inl (fun _ => 0))), (q_7, .inr (1, [.ref q1_8, .int 0])), (q1_8, .inl (cB_9, 256, .inl (fun _ => 0))), (q_11, .inr (1, [.ref q1_12, .int 0])), (q1_12, .inl (cB_13, 256, .inl (fun _ => 0))), (q_15, .inr (2, [.ref q1_16, .ref q2_17, .ref q3_18, .int 0])), (q_20, .inr (3, [.ref q1_21, .int 0])), (q_23, .inr (4, [.int 0, .int 0, .int 0]))] H := hP
  replace hD : va_D A [(h0, .inr (0, [.ref q_1, .ref q_3, .ref q_7, .ref q_11, .ref q_15, .ref q_20, .ref q_23, .int 0, .int 0])), (q_1, .inl (cA_2, 8, .inr (.inr (.inr (.inr (fun _ => none)))))), (q_3, .inr (1, [.ref q1_4, .int 0])), (q1_4, .inl (cB_5, 256, .inl (fun _ => 0))), (q_7, .inr (1, [.ref q1_8, .int 0])), (q1_8, .inl (cB_9, 256, .inl (fun _ => 0))), (q_11, .inr (1, [.ref q1_12, .int 0])), (q1_12, .inl (cB_13, 256, .inl (fun _ => 0))), (q_15, .inr (2, [.ref q1_16, .ref q2_17, .ref q3_18, .int 0])), (q_20, .inr (3, [.ref q1_21, .int 0])), (q_23, .inr (4, [.int 0, .int 0, .int 0]))] := hD
  refine lv_aload_n hx hb d_K_init_79 rfl (lv_at hl 0 rfl) ?_
  refine lv_iconst (v := 0) hx hb d_K_init_80 (by decide) ?_
  refine va_put (D := (dC, dI)) (ci := 0) (v := .int 0) (ty := .int) (C := R_K) (T := F_K) (N := 9) hx hb hw0 in_K ft_K tk_K nk_K hown hK hP hD hS 0 rfl rfl 7 (by decide) (hw0 (.fieldLink R_K 49 "TextKeeper" "madeDocuments" "I") (List.mem_of_getElem? (i := 106) rfl)) (fun _ h9 => h9) rfl (by decide +kernel) rfl rfl (Nat.le_of_ble_eq_true rfl) d_K_init_81 (fun H locs hP hD hS => ?_)
  replace hP : va_P (dC, dI) vwCl [(h0, .inr (0, [.ref q_1, .ref q_3, .ref q_7, .ref q_11, .ref q_15, .ref q_20, .ref q_23, .int 0, .int 0])), (q_1, .inl (cA_2, 8, .inr (.inr (.inr (.inr (fun _ => none)))))), (q_3, .inr (1, [.ref q1_4, .int 0])), (q1_4, .inl (cB_5, 256, .inl (fun _ => 0))), (q_7, .inr (1, [.ref q1_8, .int 0])), (q1_8, .inl (cB_9, 256, .inl (fun _ => 0))), (q_11, .inr (1, [.ref q1_12, .int 0])), (q1_12, .inl (cB_13, 256, .inl (fun _ => 0))), (q_15, .inr (2, [.ref q1_16, .ref q2_17, .ref q3_18, .int 0])), (q_20, .inr (3, [.ref q1_21, .int 0])), (q_23, .inr (4, [.int 0, .int 0, .int 0]))] H := hP
  replace hD : va_D A [(h0, .inr (0, [.ref q_1, .ref q_3, .ref q_7, .ref q_11, .ref q_15, .ref q_20, .ref q_23, .int 0, .int 0])), (q_1, .inl (cA_2, 8, .inr (.inr (.inr (.inr (fun _ => none)))))), (q_3, .inr (1, [.ref q1_4, .int 0])), (q1_4, .inl (cB_5, 256, .inl (fun _ => 0))), (q_7, .inr (1, [.ref q1_8, .int 0])), (q1_8, .inl (cB_9, 256, .inl (fun _ => 0))), (q_11, .inr (1, [.ref q1_12, .int 0])), (q1_12, .inl (cB_13, 256, .inl (fun _ => 0))), (q_15, .inr (2, [.ref q1_16, .ref q2_17, .ref q3_18, .int 0])), (q_20, .inr (3, [.ref q1_21, .int 0])), (q_23, .inr (4, [.int 0, .int 0, .int 0]))] := hD
  refine lv_aload_n hx hb d_K_init_84 rfl (lv_at hl 0 rfl) ?_
  refine lv_iconst (v := (-1)) hx hb d_K_init_85 (by decide) ?_
  refine va_put (D := (dC, dI)) (ci := 0) (v := .int (-1)) (ty := .int) (C := R_K) (T := F_K) (N := 9) hx hb hw0 in_K ft_K tk_K nk_K hown hK hP hD hS 0 rfl rfl 8 (by decide) (hw0 (.fieldLink R_K 53 "TextKeeper" "fetchedSteps" "I") (List.mem_of_getElem? (i := 107) rfl)) (fun _ h9 => h9) rfl (by decide +kernel) rfl rfl (Nat.le_of_ble_eq_true rfl) d_K_init_86 (fun H locs hP hD hS => ?_)
  replace hP : va_P (dC, dI) vwCl [(h0, .inr (0, [.ref q_1, .ref q_3, .ref q_7, .ref q_11, .ref q_15, .ref q_20, .ref q_23, .int 0, .int (-1)])), (q_1, .inl (cA_2, 8, .inr (.inr (.inr (.inr (fun _ => none)))))), (q_3, .inr (1, [.ref q1_4, .int 0])), (q1_4, .inl (cB_5, 256, .inl (fun _ => 0))), (q_7, .inr (1, [.ref q1_8, .int 0])), (q1_8, .inl (cB_9, 256, .inl (fun _ => 0))), (q_11, .inr (1, [.ref q1_12, .int 0])), (q1_12, .inl (cB_13, 256, .inl (fun _ => 0))), (q_15, .inr (2, [.ref q1_16, .ref q2_17, .ref q3_18, .int 0])), (q_20, .inr (3, [.ref q1_21, .int 0])), (q_23, .inr (4, [.int 0, .int 0, .int 0]))] H := hP
  replace hD : va_D A [(h0, .inr (0, [.ref q_1, .ref q_3, .ref q_7, .ref q_11, .ref q_15, .ref q_20, .ref q_23, .int 0, .int (-1)])), (q_1, .inl (cA_2, 8, .inr (.inr (.inr (.inr (fun _ => none)))))), (q_3, .inr (1, [.ref q1_4, .int 0])), (q1_4, .inl (cB_5, 256, .inl (fun _ => 0))), (q_7, .inr (1, [.ref q1_8, .int 0])), (q1_8, .inl (cB_9, 256, .inl (fun _ => 0))), (q_11, .inr (1, [.ref q1_12, .int 0])), (q1_12, .inl (cB_13, 256, .inl (fun _ => 0))), (q_15, .inr (2, [.ref q1_16, .ref q2_17, .ref q3_18, .int 0])), (q_20, .inr (3, [.ref q1_21, .int 0])), (q_23, .inr (4, [.int 0, .int 0, .int 0]))] := hD
  have hP9 := hP.sub (ws' := [(h0, .inr (0, [.ref q_1, .ref q_3, .ref q_7, .ref q_11, .ref q_15, .ref q_20, .ref q_23, .int 0, .int (-1)])), (q_1, .inl (cA_2, 8, .inr (.inr (.inr (.inr (fun _ => none)))))), (q_3, .inr (1, [.ref q1_4, .int 0])), (q1_4, .inl (cB_5, 256, .inl (fun _ => 0))), (q_7, .inr (1, [.ref q1_8, .int 0])), (q_23, .inr (4, [.int 0, .int 0, .int 0]))]) [0, 1, 2, 3, 4, 10] rfl
  have hD9 := hD.sub (ws' := [(h0, .inr (0, [.ref q_1, .ref q_3, .ref q_7, .ref q_11, .ref q_15, .ref q_20, .ref q_23, .int 0, .int (-1)])), (q_1, .inl (cA_2, 8, .inr (.inr (.inr (.inr (fun _ => none)))))), (q_3, .inr (1, [.ref q1_4, .int 0])), (q1_4, .inl (cB_5, 256, .inl (fun _ => 0))), (q_7, .inr (1, [.ref q1_8, .int 0])), (q_23, .inr (4, [.int 0, .int 0, .int 0]))]) [0, 1, 2, 3, 4, 10] (by decide) rfl
  have hK9 := hK.sub (tys' := [(cA_2, .object R_D), (cB_5, .byte)]) [0, 1] rfl
  exact W.vret hx hb hr (fun t ht hW => ⟨⟨(), rfl, trivial, q_1, cA_2, q_3, q1_4, cB_5, q_7, q1_8, q_11, q_15, q_20, q_23, by rw [ht]; exact hP9, va_K.moved hW.alike hK9, hD9⟩, hS.F ht⟩) hS.2.2 d_K_init_89
end
section
set_option maxHeartbeats 4000000 in
set_option maxRecDepth 100000 in
theorem c_needPower (l : Launch) (dC : Nat → ClassId) (dI : Nat → Nat → Nat) (h0 : Nat) (v_documents : Value) (v_buffer : Value) (v_fetched : Value) (v_compared : Value) (v_maker : Value) (v_writer : Value) (i_madeDocuments : Int32) (i_fetchedSteps : Int32) (hp : Nat) (p_i_going : Int32) (p_i_writesLeft : Int32)  : Met l y_K_needPower k_K_needPower ({ frames := 0, cells := 0, slots := 0, locals := 0 } : Room) (va_Pc [.ref h0] (pc_R (dC, dI) [(h0, .inr (0, [v_documents, v_buffer, v_fetched, v_compared, v_maker, v_writer, .ref hp, .int i_madeDocuments, .int i_fetchedSteps])), (hp, .inr (4, [.int 0, .int p_i_going, .int p_i_writesLeft]))] [])) (va_Sv (fun _ => True)) 0 0 (fun _ => False) := by
  refine Met.ofW (cc := prog_1_method_21_code) (maxL := 1) (ret := none) (by decide) rfl ?_
  intro p e s m args below meth c s₁ B hml hv
  obtain ⟨rfl, hP, hK, hN⟩ := hv
  have hx := B.exec
  have hb := B.bytes
  have hr := B.returns
  have hts := atoms_spec (ws := k_K_needPower) B.pre
  have hw0 : ∀ w ∈ w0, w.before _ s = true := fun w h => hts w (List.mem_cons_of_mem _ h)
  have hown : s.vm.findClass R_K = some m.cls := findClass_of_methodNamed B.named
  have hlocks := B.notSynchronized
  have hP : va_P (dC, dI) vwCl [(h0, .inr (0, [v_documents, v_buffer, v_fetched, v_compared, v_maker, v_writer, .ref hp, .int i_madeDocuments, .int i_fetchedSteps])), (hp, .inr (4, [.int 0, .int p_i_going, .int p_i_writesLeft]))] s.heap := hP
  have hl := lv_entry ([.ref h0]) (n := 1) (Nat.le_of_ble_eq_true rfl)
  rw [lg_entry_eq]
  generalize (lg_sl ([.ref h0]) ++ List.replicate (1 - (lg_sl ([.ref h0])).length) Slot.unset).toArray = ls at hl ⊢
  have hl : lv_has ls 1 [(0, .ref h0)] := hl
  refine lv_aload_n hx hb d_K_needPower_0 rfl (lv_at hl 0 rfl) ?_
  refine va_get (D := (dC, dI)) (ci := 0) (v := .ref hp) (C := R_K) (T := F_K) (N := 9) hx hb hw0 in_K hown hK hP 0 rfl rfl 6 (by decide) (hw0 (.fieldLink R_K 45 "TextKeeper" "power" "LTextKeeper$Power;") (List.mem_of_getElem? (i := 105) rfl)) (fun _ h9 => h9) rfl d_K_needPower_1 ?_
  refine va_getN (D := (dC, dI)) (ci := 4) (v := .int 0) (C := R_P) (T := F_P) (N := 3) hx hb hw0 in_P hown hK hP 1 rfl rfl 0 (by decide) (va_Nw.use rfl (hN.1 (.fieldLinkNest R_K 180 "TextKeeper$Power" "down" "Z" "TextKeeper") (List.mem_of_getElem? (i := 0) rfl))) (fun _ h9 => h9) rfl d_K_needPower_4 ?_
  refine lv_if_eq (tgt := 18) hx hb d_K_needPower_7 (by decide) (fun _ => ?_) (fun h9 => absurd h9 (by decide +kernel))
  exact W.vret hx hb hr (fun t ht hW => ⟨rfl, trivial, ht⟩) (fun q h => by cases h) d_K_needPower_18
set_option maxHeartbeats 4000000 in
set_option maxRecDepth 100000 in
theorem c_documentAt (l : Launch) (dC : Nat → ClassId) (dI : Nat → Nat → Nat) (h0 : Nat) (v_buffer : Value) (v_fetched : Value) (v_compared : Value) (v_maker : Value) (v_writer : Value) (v_power : Value) (i_madeDocuments : Int32) (i_fetchedSteps : Int32) (hd : Nat) (cD : ClassId) (a1 : Int32)  : Met l y_K_documentAt k_K_documentAt ({ frames := 0, cells := 0, slots := 0, locals := 0 } : Room) (va_Pc [.ref h0, .int a1] (pc_R (dC, dI) [(h0, .inr (0, [.ref hd, v_buffer, v_fetched, v_compared, v_maker, v_writer, v_power, .int i_madeDocuments, .int i_fetchedSteps])), (hd, .inl (cD, 8, .inr (.inr (.inr (.inr (fun _ => none))))))] [(cD, .object R_D)])) (va_Sq (fun r => r = none)) 0 0 (fun _ => False) := by
  refine Met.ofW (cc := prog_1_method_23_code) (maxL := 2) (ret := (some (.object "TextKeeper$Document"))) (by decide) rfl ?_
  intro p e s m args below meth c s₁ B hml hv
  obtain ⟨rfl, hP, hK, hN⟩ := hv
  have hx := B.exec
  have hb := B.bytes
  have hr := B.returns
  have hts := atoms_spec (ws := k_K_documentAt) B.pre
  have hw0 : ∀ w ∈ w0, w.before _ s = true := fun w h => hts w (List.mem_cons_of_mem _ h)
  have hown : s.vm.findClass R_K = some m.cls := findClass_of_methodNamed B.named
  have hlocks := B.notSynchronized
  have hP : va_P (dC, dI) vwCl [(h0, .inr (0, [.ref hd, v_buffer, v_fetched, v_compared, v_maker, v_writer, v_power, .int i_madeDocuments, .int i_fetchedSteps])), (hd, .inl (cD, 8, .inr (.inr (.inr (.inr (fun _ => none))))))] s.heap := hP
  have hl := lv_entry ([.ref h0, .int a1]) (n := 2) (Nat.le_of_ble_eq_true rfl)
  rw [lg_entry_eq]
  generalize (lg_sl ([.ref h0, .int a1]) ++ List.replicate (2 - (lg_sl ([.ref h0, .int a1])).length) Slot.unset).toArray = ls at hl ⊢
  have hl : lv_has ls 2 [(0, .ref h0), (1, .int a1)] := hl
  refine lv_iload_n hx hb d_K_documentAt_0 rfl (lv_at hl 1 rfl) ?_
  refine lv_if_lt (tgt := 19) hx hb d_K_documentAt_1 (by decide) (fun c_1 => ?_) (fun c_1 => ?_)
  · refine lv_null hx hb d_K_documentAt_19 ?_
    exact W.aret (v := .null) hx hb hr (Or.inl ⟨_, rfl⟩) (Or.inl rfl) (fun t ht hW => ⟨none, rfl, rfl, ht⟩) (fun q h => by cases h) d_K_documentAt_20
  · refine lv_iload_n hx hb d_K_documentAt_4 rfl (lv_at hl 1 rfl) ?_
    refine lv_bipush (v := 8) hx hb d_K_documentAt_5 (by decide +kernel) ?_
    refine lv_icmp_ge (tgt := 19) hx hb d_K_documentAt_7 (by decide) (fun c_2 => ?_) (fun c_2 => ?_)
    · refine lv_null hx hb d_K_documentAt_19 ?_
      exact W.aret (v := .null) hx hb hr (Or.inl ⟨_, rfl⟩) (Or.inl rfl) (fun t ht hW => ⟨none, rfl, rfl, ht⟩) (fun q h => by cases h) d_K_documentAt_20
    · refine lv_aload_n hx hb d_K_documentAt_10 rfl (lv_at hl 0 rfl) ?_
      refine va_get (D := (dC, dI)) (ci := 0) (v := .ref hd) (C := R_K) (T := F_K) (N := 9) hx hb hw0 in_K hown hK hP 0 rfl rfl 0 (by decide) (hw0 (.fieldLink R_K 11 "TextKeeper" "documents" "[LTextKeeper$Document;") (List.mem_of_getElem? (i := 79) rfl)) (fun _ h9 => h9) rfl d_K_documentAt_11 ?_
      refine lv_iload_n hx hb d_K_documentAt_14 rfl (lv_at hl 1 rfl) ?_
      refine va_aldq hx hb hK hP 1 0 rfl rfl (x_in (N := 8) (by decide +kernel) c_1 c_2) d_K_documentAt_15 ?_
      refine W.eq (g2 := F0 m 16 ls [.null]) rfl ?_
      refine lv_goto (tgt := 20) hx hb d_K_documentAt_16 (by decide) ?_
      exact W.aret (v := .null) hx hb hr (Or.inl ⟨_, rfl⟩) (Or.inl rfl) (fun t ht hW => ⟨none, rfl, rfl, ht⟩) (fun q h => by cases h) d_K_documentAt_20
set_option maxHeartbeats 4000000 in
set_option maxRecDepth 100000 in
theorem c_keptRevision (l : Launch) (dC : Nat → ClassId) (dI : Nat → Nat → Nat) (h0 : Nat) (v_buffer : Value) (v_fetched : Value) (v_compared : Value) (v_maker : Value) (v_writer : Value) (v_power : Value) (i_madeDocuments : Int32) (i_fetchedSteps : Int32) (hd : Nat) (cD : ClassId) (a1 : Int32) (a2 : Int32)  : Met l y_K_keptRevision k_K_keptRevision ({ frames := 1, cells := 0, slots := 0, locals := 21 } : Room) (va_Pc [.ref h0, .int a1, .int a2] (pc_R (dC, dI) [(h0, .inr (0, [.ref hd, v_buffer, v_fetched, v_compared, v_maker, v_writer, v_power, .int i_madeDocuments, .int i_fetchedSteps])), (hd, .inl (cD, 8, .inr (.inr (.inr (.inr (fun _ => none))))))] [(cD, .object R_D)])) (va_Sq (fun r => r = none)) 0 0 (fun _ => False) := by
  refine Met.ofW (cc := prog_1_method_24_code) (maxL := 4) (ret := (some (.object "TextKeeper$Revision"))) (by decide) rfl ?_
  intro p e s m args below meth c s₁ B hml hv
  obtain ⟨rfl, hP, hK, hN⟩ := hv
  have hx := B.exec
  have hb := B.bytes
  have hr := B.returns
  have hts := atoms_spec (ws := k_K_keptRevision) B.pre
  have hw0 : ∀ w ∈ w0, w.before _ s = true := fun w h => hts w (List.mem_cons_of_mem _ h)
  have hown : s.vm.findClass R_K = some m.cls := findClass_of_methodNamed B.named
  have hlocks := B.notSynchronized
  have hP : va_P (dC, dI) vwCl [(h0, .inr (0, [.ref hd, v_buffer, v_fetched, v_compared, v_maker, v_writer, v_power, .int i_madeDocuments, .int i_fetchedSteps])), (hd, .inl (cD, 8, .inr (.inr (.inr (.inr (fun _ => none))))))] s.heap := hP
  have hl := lv_entry ([.ref h0, .int a1, .int a2]) (n := 4) (Nat.le_of_ble_eq_true rfl)
  rw [lg_entry_eq]
  generalize (lg_sl ([.ref h0, .int a1, .int a2]) ++ List.replicate (4 - (lg_sl ([.ref h0, .int a1, .int a2])).length) Slot.unset).toArray = ls at hl ⊢
  have hl : lv_has ls 4 [(0, .ref h0), (1, .int a1), (2, .int a2)] := hl
  refine lv_aload_n hx hb d_K_keptRevision_0 rfl (lv_at hl 0 rfl) ?_
  refine lv_iload_n hx hb d_K_keptRevision_1 rfl (lv_at hl 1 rfl) ?_
  have hPc := hP.sub (ws' := [(h0, .inr (0, [.ref hd, v_buffer, v_fetched, v_compared, v_maker, v_writer, v_power, .int i_madeDocuments, .int i_fetchedSteps])), (hd, .inl (cD, 8, .inr (.inr (.inr (.inr (fun _ => none))))))]) [0, 1] rfl
  have hKc := hK.sub (tys' := [(cD, .object R_D)]) [0] rfl
  refine ps_q (va_runV (As := [.int a1]) (rest := []) ⟨hx, hb, hml, hown, hw0⟩ (c_documentAt l dC dI h0 v_buffer v_fetched v_compared v_maker v_writer v_power i_madeDocuments i_fetchedSteps hd cD a1) (cwV 1 hw0 (gd_V 108 109 110 111 112 rfl rfl rfl rfl rfl) rfl rfl rfl (by decide +kernel) ⟨by decide +kernel, by decide +kernel⟩) (prV_R hPc hKc hN (va_recv hKc hPc (ci := 0) (q0 := 0) rfl rfl)) rfl rfl hl.1 rfl (lv_room (Nat.le_of_ble_eq_true rfl)) d_K_keptRevision_2 ⟨by decide +kernel, by decide +kernel⟩) (fun r_1 hr_1 => ?_)
  obtain rfl : r_1 = none := hr_1
  refine W.eq (g2 := F0 m 5 ls [.null]) rfl ?_
  refine lv_astore_nN (lv' := [(3, .null), (0, .ref h0), (1, .int a1), (2, .int a2)]) hx hb d_K_keptRevision_5 rfl hl (by decide) rfl (fun ls hl => ?_)
  refine lv_aload_nN hx hb d_K_keptRevision_6 rfl (lv_at hl 0 rfl) ?_
  refine lv_ifnonnullN hx hb d_K_keptRevision_7 ?_
  refine lv_null hx hb d_K_keptRevision_10 ?_
  refine lv_goto (tgt := 19) hx hb d_K_keptRevision_11 (by decide) ?_
  exact W.aret (v := .null) hx hb hr (Or.inl ⟨_, rfl⟩) (Or.inl rfl) (fun t ht hW => ⟨none, rfl, rfl, ht⟩) (fun q h => by cases h) d_K_keptRevision_19
set_option maxHeartbeats 4000000 in
set_option maxRecDepth 100000 in
theorem c_commit (l : Launch) (dC : Nat → ClassId) (dI : Nat → Nat → Nat) (h0 : Nat) (v_buffer : Value) (v_fetched : Value) (v_compared : Value) (v_maker : Value) (v_writer : Value) (i_madeDocuments : Int32) (i_fetchedSteps : Int32) (hp : Nat) (p_i_going : Int32) (p_i_writesLeft : Int32) (hd : Nat) (cD : ClassId) (a1 : Int32) (a2 : Int32)  : Met l y_K_commit k_K_commit ({ frames := 1, cells := 0, slots := 0, locals := 21 } : Room) (va_Pc [.ref h0, .int a1, .int a2] (pc_R (dC, dI) [(h0, .inr (0, [.ref hd, v_buffer, v_fetched, v_compared, v_maker, v_writer, .ref hp, .int i_madeDocuments, .int i_fetchedSteps])), (hp, .inr (4, [.int 0, .int p_i_going, .int p_i_writesLeft])), (hd, .inl (cD, 8, .inr (.inr (.inr (.inr (fun _ => none))))))] [(cD, .object R_D)])) (vp_Si (fun r => r = (-1))) 0 0 (fun _ => False) := by
  refine Met.ofW (cc := prog_1_method_5_code) (maxL := 7) (ret := (some .int)) (by decide) rfl ?_
  intro p e s m args below meth c s₁ B hml hv
  obtain ⟨rfl, hP, hK, hN⟩ := hv
  have hx := B.exec
  have hb := B.bytes
  have hr := B.returns
  have hts := atoms_spec (ws := k_K_commit) B.pre
  have hw0 : ∀ w ∈ w0, w.before _ s = true := fun w h => hts w (List.mem_cons_of_mem _ h)
  have hown : s.vm.findClass R_K = some m.cls := findClass_of_methodNamed B.named
  have hlocks := B.notSynchronized
  have hP : va_P (dC, dI) vwCl [(h0, .inr (0, [.ref hd, v_buffer, v_fetched, v_compared, v_maker, v_writer, .ref hp, .int i_madeDocuments, .int i_fetchedSteps])), (hp, .inr (4, [.int 0, .int p_i_going, .int p_i_writesLeft])), (hd, .inl (cD, 8, .inr (.inr (.inr (.inr (fun _ => none))))))] s.heap := hP
  have hl := lv_entry ([.ref h0, .int a1, .int a2]) (n := 7) (Nat.le_of_ble_eq_true rfl)
  rw [lg_entry_eq]
  generalize (lg_sl ([.ref h0, .int a1, .int a2]) ++ List.replicate (7 - (lg_sl ([.ref h0, .int a1, .int a2])).length) Slot.unset).toArray = ls at hl ⊢
  have hl : lv_has ls 7 [(0, .ref h0), (1, .int a1), (2, .int a2)] := hl
  refine lv_aload_n hx hb d_K_commit_0 rfl (lv_at hl 0 rfl) ?_
  have hPc := hP.sub (ws' := [(h0, .inr (0, [.ref hd, v_buffer, v_fetched, v_compared, v_maker, v_writer, .ref hp, .int i_madeDocuments, .int i_fetchedSteps])), (hp, .inr (4, [.int 0, .int p_i_going, .int p_i_writesLeft]))]) [0, 1] rfl
  have hKc := hK.sub (tys' := []) [] rfl
  refine ps_v (va_runV (As := []) (rest := []) ⟨hx, hb, hml, hown, hw0⟩ (c_needPower l dC dI h0 (.ref hd) v_buffer v_fetched v_compared v_maker v_writer i_madeDocuments i_fetchedSteps hp p_i_going p_i_writesLeft) (cwV 0 hw0 (gd_V 113 114 115 111 116 rfl rfl rfl rfl rfl) rfl rfl rfl (by decide +kernel) ⟨by decide +kernel, by decide +kernel⟩) (prV_R hPc hKc hN (va_recv hKc hPc (ci := 0) (q0 := 0) rfl rfl)) rfl rfl hl.1 rfl (lv_room (Nat.le_of_ble_eq_true rfl)) d_K_commit_1 ⟨by decide +kernel, by decide +kernel⟩) ?_
  refine lv_aload_n hx hb d_K_commit_4 rfl (lv_at hl 0 rfl) ?_
  refine lv_iload_n hx hb d_K_commit_5 rfl (lv_at hl 1 rfl) ?_
  have hPc := hP.sub (ws' := [(h0, .inr (0, [.ref hd, v_buffer, v_fetched, v_compared, v_maker, v_writer, .ref hp, .int i_madeDocuments, .int i_fetchedSteps])), (hd, .inl (cD, 8, .inr (.inr (.inr (.inr (fun _ => none))))))]) [0, 2] rfl
  have hKc := hK.sub (tys' := [(cD, .object R_D)]) [0] rfl
  refine ps_q (va_runV (As := [.int a1]) (rest := []) ⟨hx, hb, hml, hown, hw0⟩ (c_documentAt l dC dI h0 v_buffer v_fetched v_compared v_maker v_writer (.ref hp) i_madeDocuments i_fetchedSteps hd cD a1) (cwV 1 hw0 (gd_V 108 109 110 111 112 rfl rfl rfl rfl rfl) rfl rfl rfl (by decide +kernel) ⟨by decide +kernel, by decide +kernel⟩) (prV_R hPc hKc hN (va_recv hKc hPc (ci := 0) (q0 := 0) rfl rfl)) rfl rfl hl.1 rfl (lv_room (Nat.le_of_ble_eq_true rfl)) d_K_commit_6 ⟨by decide +kernel, by decide +kernel⟩) (fun r_1 hr_1 => ?_)
  obtain rfl : r_1 = none := hr_1
  refine W.eq (g2 := F0 m 9 ls [.null]) rfl ?_
  refine lv_astore_nN (lv' := [(3, .null), (0, .ref h0), (1, .int a1), (2, .int a2)]) hx hb d_K_commit_9 rfl hl (by decide) rfl (fun ls hl => ?_)
  refine lv_aload_nN hx hb d_K_commit_10 rfl (lv_at hl 0 rfl) ?_
  refine lv_ifnullN (tgt := 21) hx hb d_K_commit_11 (by decide) ?_
  refine lv_iconst (v := (-1)) hx hb d_K_commit_21 (by decide) ?_
  exact W.iret (v := (-1)) hx hb hr (fun t ht hW => ⟨(-1), rfl, rfl, ht⟩) (fun q h => by cases h) d_K_commit_22
set_option maxHeartbeats 4000000 in
set_option maxRecDepth 100000 in
theorem c_fetch (l : Launch) (dC : Nat → ClassId) (dI : Nat → Nat → Nat) (h0 : Nat) (v_buffer : Value) (v_fetched : Value) (v_compared : Value) (v_maker : Value) (v_writer : Value) (i_madeDocuments : Int32) (i_fetchedSteps : Int32) (hp : Nat) (p_i_going : Int32) (p_i_writesLeft : Int32) (hd : Nat) (cD : ClassId) (a1 : Int32) (a2 : Int32)  : Met l y_K_fetch k_K_fetch ({ frames := 1, cells := 0, slots := 0, locals := 21 } : Room) (va_Pc [.ref h0, .int a1, .int a2] (pc_R (dC, dI) [(h0, .inr (0, [.ref hd, v_buffer, v_fetched, v_compared, v_maker, v_writer, .ref hp, .int i_madeDocuments, .int i_fetchedSteps])), (hp, .inr (4, [.int 0, .int p_i_going, .int p_i_writesLeft])), (hd, .inl (cD, 8, .inr (.inr (.inr (.inr (fun _ => none))))))] [(cD, .object R_D)])) (vp_Si (fun r => r = (-1))) 0 0 (fun _ => False) := by
  refine Met.ofW (cc := prog_1_method_6_code) (maxL := 5) (ret := (some .int)) (by decide) rfl ?_
  intro p e s m args below meth c s₁ B hml hv
  obtain ⟨rfl, hP, hK, hN⟩ := hv
  have hx := B.exec
  have hb := B.bytes
  have hr := B.returns
  have hts := atoms_spec (ws := k_K_fetch) B.pre
  have hw0 : ∀ w ∈ w0, w.before _ s = true := fun w h => hts w (List.mem_cons_of_mem _ h)
  have hown : s.vm.findClass R_K = some m.cls := findClass_of_methodNamed B.named
  have hlocks := B.notSynchronized
  have hP : va_P (dC, dI) vwCl [(h0, .inr (0, [.ref hd, v_buffer, v_fetched, v_compared, v_maker, v_writer, .ref hp, .int i_madeDocuments, .int i_fetchedSteps])), (hp, .inr (4, [.int 0, .int p_i_going, .int p_i_writesLeft])), (hd, .inl (cD, 8, .inr (.inr (.inr (.inr (fun _ => none))))))] s.heap := hP
  have hl := lv_entry ([.ref h0, .int a1, .int a2]) (n := 5) (Nat.le_of_ble_eq_true rfl)
  rw [lg_entry_eq]
  generalize (lg_sl ([.ref h0, .int a1, .int a2]) ++ List.replicate (5 - (lg_sl ([.ref h0, .int a1, .int a2])).length) Slot.unset).toArray = ls at hl ⊢
  have hl : lv_has ls 5 [(0, .ref h0), (1, .int a1), (2, .int a2)] := hl
  refine lv_aload_n hx hb d_K_fetch_0 rfl (lv_at hl 0 rfl) ?_
  have hPc := hP.sub (ws' := [(h0, .inr (0, [.ref hd, v_buffer, v_fetched, v_compared, v_maker, v_writer, .ref hp, .int i_madeDocuments, .int i_fetchedSteps])), (hp, .inr (4, [.int 0, .int p_i_going, .int p_i_writesLeft]))]) [0, 1] rfl
  have hKc := hK.sub (tys' := []) [] rfl
  refine ps_v (va_runV (As := []) (rest := []) ⟨hx, hb, hml, hown, hw0⟩ (c_needPower l dC dI h0 (.ref hd) v_buffer v_fetched v_compared v_maker v_writer i_madeDocuments i_fetchedSteps hp p_i_going p_i_writesLeft) (cwV 0 hw0 (gd_V 113 114 115 111 116 rfl rfl rfl rfl rfl) rfl rfl rfl (by decide +kernel) ⟨by decide +kernel, by decide +kernel⟩) (prV_R hPc hKc hN (va_recv hKc hPc (ci := 0) (q0 := 0) rfl rfl)) rfl rfl hl.1 rfl (lv_room (Nat.le_of_ble_eq_true rfl)) d_K_fetch_1 ⟨by decide +kernel, by decide +kernel⟩) ?_
  refine lv_aload_n hx hb d_K_fetch_4 rfl (lv_at hl 0 rfl) ?_
  refine lv_iload_n hx hb d_K_fetch_5 rfl (lv_at hl 1 rfl) ?_
  have hPc := hP.sub (ws' := [(h0, .inr (0, [.ref hd, v_buffer, v_fetched, v_compared, v_maker, v_writer, .ref hp, .int i_madeDocuments, .int i_fetchedSteps])), (hd, .inl (cD, 8, .inr (.inr (.inr (.inr (fun _ => none))))))]) [0, 2] rfl
  have hKc := hK.sub (tys' := [(cD, .object R_D)]) [0] rfl
  refine ps_q (va_runV (As := [.int a1]) (rest := []) ⟨hx, hb, hml, hown, hw0⟩ (c_documentAt l dC dI h0 v_buffer v_fetched v_compared v_maker v_writer (.ref hp) i_madeDocuments i_fetchedSteps hd cD a1) (cwV 1 hw0 (gd_V 108 109 110 111 112 rfl rfl rfl rfl rfl) rfl rfl rfl (by decide +kernel) ⟨by decide +kernel, by decide +kernel⟩) (prV_R hPc hKc hN (va_recv hKc hPc (ci := 0) (q0 := 0) rfl rfl)) rfl rfl hl.1 rfl (lv_room (Nat.le_of_ble_eq_true rfl)) d_K_fetch_6 ⟨by decide +kernel, by decide +kernel⟩) (fun r_1 hr_1 => ?_)
  obtain rfl : r_1 = none := hr_1
  refine W.eq (g2 := F0 m 9 ls [.null]) rfl ?_
  refine lv_astore_nN (lv' := [(3, .null), (0, .ref h0), (1, .int a1), (2, .int a2)]) hx hb d_K_fetch_9 rfl hl (by decide) rfl (fun ls hl => ?_)
  refine lv_aload_nN hx hb d_K_fetch_10 rfl (lv_at hl 0 rfl) ?_
  refine lv_ifnullN (tgt := 22) hx hb d_K_fetch_11 (by decide) ?_
  refine lv_iconst (v := (-1)) hx hb d_K_fetch_22 (by decide) ?_
  exact W.iret (v := (-1)) hx hb hr (fun t ht hW => ⟨(-1), rfl, rfl, ht⟩) (fun q h => by cases h) d_K_fetch_23
set_option maxHeartbeats 4000000 in
set_option maxRecDepth 100000 in
theorem c_trim (l : Launch) (dC : Nat → ClassId) (dI : Nat → Nat → Nat) (h0 : Nat) (v_buffer : Value) (v_fetched : Value) (v_compared : Value) (v_maker : Value) (v_writer : Value) (i_madeDocuments : Int32) (i_fetchedSteps : Int32) (hp : Nat) (p_i_going : Int32) (p_i_writesLeft : Int32) (hd : Nat) (cD : ClassId) (a1 : Int32) (a2 : Int32)  : Met l y_K_trim k_K_trim ({ frames := 1, cells := 0, slots := 0, locals := 21 } : Room) (va_Pc [.ref h0, .int a1, .int a2] (pc_R (dC, dI) [(h0, .inr (0, [.ref hd, v_buffer, v_fetched, v_compared, v_maker, v_writer, .ref hp, .int i_madeDocuments, .int i_fetchedSteps])), (hp, .inr (4, [.int 0, .int p_i_going, .int p_i_writesLeft])), (hd, .inl (cD, 8, .inr (.inr (.inr (.inr (fun _ => none))))))] [(cD, .object R_D)])) (vp_Si (fun r => r = 0)) 0 0 (fun _ => False) := by
  refine Met.ofW (cc := prog_1_method_9_code) (maxL := 4) (ret := (some .boolean)) (by decide) rfl ?_
  intro p e s m args below meth c s₁ B hml hv
  obtain ⟨rfl, hP, hK, hN⟩ := hv
  have hx := B.exec
  have hb := B.bytes
  have hr := B.returns
  have hts := atoms_spec (ws := k_K_trim) B.pre
  have hw0 : ∀ w ∈ w0, w.before _ s = true := fun w h => hts w (List.mem_cons_of_mem _ h)
  have hown : s.vm.findClass R_K = some m.cls := findClass_of_methodNamed B.named
  have hlocks := B.notSynchronized
  have hP : va_P (dC, dI) vwCl [(h0, .inr (0, [.ref hd, v_buffer, v_fetched, v_compared, v_maker, v_writer, .ref hp, .int i_madeDocuments, .int i_fetchedSteps])), (hp, .inr (4, [.int 0, .int p_i_going, .int p_i_writesLeft])), (hd, .inl (cD, 8, .inr (.inr (.inr (.inr (fun _ => none))))))] s.heap := hP
  have hl := lv_entry ([.ref h0, .int a1, .int a2]) (n := 4) (Nat.le_of_ble_eq_true rfl)
  rw [lg_entry_eq]
  generalize (lg_sl ([.ref h0, .int a1, .int a2]) ++ List.replicate (4 - (lg_sl ([.ref h0, .int a1, .int a2])).length) Slot.unset).toArray = ls at hl ⊢
  have hl : lv_has ls 4 [(0, .ref h0), (1, .int a1), (2, .int a2)] := hl
  refine lv_aload_n hx hb d_K_trim_0 rfl (lv_at hl 0 rfl) ?_
  have hPc := hP.sub (ws' := [(h0, .inr (0, [.ref hd, v_buffer, v_fetched, v_compared, v_maker, v_writer, .ref hp, .int i_madeDocuments, .int i_fetchedSteps])), (hp, .inr (4, [.int 0, .int p_i_going, .int p_i_writesLeft]))]) [0, 1] rfl
  have hKc := hK.sub (tys' := []) [] rfl
  refine ps_v (va_runV (As := []) (rest := []) ⟨hx, hb, hml, hown, hw0⟩ (c_needPower l dC dI h0 (.ref hd) v_buffer v_fetched v_compared v_maker v_writer i_madeDocuments i_fetchedSteps hp p_i_going p_i_writesLeft) (cwV 0 hw0 (gd_V 113 114 115 111 116 rfl rfl rfl rfl rfl) rfl rfl rfl (by decide +kernel) ⟨by decide +kernel, by decide +kernel⟩) (prV_R hPc hKc hN (va_recv hKc hPc (ci := 0) (q0 := 0) rfl rfl)) rfl rfl hl.1 rfl (lv_room (Nat.le_of_ble_eq_true rfl)) d_K_trim_1 ⟨by decide +kernel, by decide +kernel⟩) ?_
  refine lv_aload_n hx hb d_K_trim_4 rfl (lv_at hl 0 rfl) ?_
  refine lv_iload_n hx hb d_K_trim_5 rfl (lv_at hl 1 rfl) ?_
  have hPc := hP.sub (ws' := [(h0, .inr (0, [.ref hd, v_buffer, v_fetched, v_compared, v_maker, v_writer, .ref hp, .int i_madeDocuments, .int i_fetchedSteps])), (hd, .inl (cD, 8, .inr (.inr (.inr (.inr (fun _ => none))))))]) [0, 2] rfl
  have hKc := hK.sub (tys' := [(cD, .object R_D)]) [0] rfl
  refine ps_q (va_runV (As := [.int a1]) (rest := []) ⟨hx, hb, hml, hown, hw0⟩ (c_documentAt l dC dI h0 v_buffer v_fetched v_compared v_maker v_writer (.ref hp) i_madeDocuments i_fetchedSteps hd cD a1) (cwV 1 hw0 (gd_V 108 109 110 111 112 rfl rfl rfl rfl rfl) rfl rfl rfl (by decide +kernel) ⟨by decide +kernel, by decide +kernel⟩) (prV_R hPc hKc hN (va_recv hKc hPc (ci := 0) (q0 := 0) rfl rfl)) rfl rfl hl.1 rfl (lv_room (Nat.le_of_ble_eq_true rfl)) d_K_trim_6 ⟨by decide +kernel, by decide +kernel⟩) (fun r_1 hr_1 => ?_)
  obtain rfl : r_1 = none := hr_1
  refine W.eq (g2 := F0 m 9 ls [.null]) rfl ?_
  refine lv_astore_nN (lv' := [(3, .null), (0, .ref h0), (1, .int a1), (2, .int a2)]) hx hb d_K_trim_9 rfl hl (by decide) rfl (fun ls hl => ?_)
  refine lv_aload_nN hx hb d_K_trim_10 rfl (lv_at hl 0 rfl) ?_
  refine lv_ifnullN (tgt := 22) hx hb d_K_trim_11 (by decide) ?_
  refine lv_iconst (v := 0) hx hb d_K_trim_22 (by decide) ?_
  exact W.zret (v := 0) (ty := .boolean) hx hb hr rfl (fun t ht hW => ⟨0, rfl, rfl, ht⟩) (fun q h => by cases h) d_K_trim_23
set_option maxHeartbeats 4000000 in
set_option maxRecDepth 100000 in
theorem c_dropDocument (l : Launch) (dC : Nat → ClassId) (dI : Nat → Nat → Nat) (h0 : Nat) (v_buffer : Value) (v_fetched : Value) (v_compared : Value) (v_maker : Value) (v_writer : Value) (i_madeDocuments : Int32) (i_fetchedSteps : Int32) (hp : Nat) (p_i_going : Int32) (p_i_writesLeft : Int32) (hd : Nat) (cD : ClassId) (a1 : Int32)  : Met l y_K_dropDocument k_K_dropDocument ({ frames := 1, cells := 0, slots := 0, locals := 21 } : Room) (va_Pc [.ref h0, .int a1] (pc_R (dC, dI) [(h0, .inr (0, [.ref hd, v_buffer, v_fetched, v_compared, v_maker, v_writer, .ref hp, .int i_madeDocuments, .int i_fetchedSteps])), (hp, .inr (4, [.int 0, .int p_i_going, .int p_i_writesLeft])), (hd, .inl (cD, 8, .inr (.inr (.inr (.inr (fun _ => none))))))] [(cD, .object R_D)])) (vp_Si (fun r => r = 0)) 0 0 (fun _ => False) := by
  refine Met.ofW (cc := prog_1_method_10_code) (maxL := 2) (ret := (some .boolean)) (by decide) rfl ?_
  intro p e s m args below meth c s₁ B hml hv
  obtain ⟨rfl, hP, hK, hN⟩ := hv
  have hx := B.exec
  have hb := B.bytes
  have hr := B.returns
  have hts := atoms_spec (ws := k_K_dropDocument) B.pre
  have hw0 : ∀ w ∈ w0, w.before _ s = true := fun w h => hts w (List.mem_cons_of_mem _ h)
  have hown : s.vm.findClass R_K = some m.cls := findClass_of_methodNamed B.named
  have hlocks := B.notSynchronized
  have hP : va_P (dC, dI) vwCl [(h0, .inr (0, [.ref hd, v_buffer, v_fetched, v_compared, v_maker, v_writer, .ref hp, .int i_madeDocuments, .int i_fetchedSteps])), (hp, .inr (4, [.int 0, .int p_i_going, .int p_i_writesLeft])), (hd, .inl (cD, 8, .inr (.inr (.inr (.inr (fun _ => none))))))] s.heap := hP
  have hl := lv_entry ([.ref h0, .int a1]) (n := 2) (Nat.le_of_ble_eq_true rfl)
  rw [lg_entry_eq]
  generalize (lg_sl ([.ref h0, .int a1]) ++ List.replicate (2 - (lg_sl ([.ref h0, .int a1])).length) Slot.unset).toArray = ls at hl ⊢
  have hl : lv_has ls 2 [(0, .ref h0), (1, .int a1)] := hl
  refine lv_aload_n hx hb d_K_dropDocument_0 rfl (lv_at hl 0 rfl) ?_
  have hPc := hP.sub (ws' := [(h0, .inr (0, [.ref hd, v_buffer, v_fetched, v_compared, v_maker, v_writer, .ref hp, .int i_madeDocuments, .int i_fetchedSteps])), (hp, .inr (4, [.int 0, .int p_i_going, .int p_i_writesLeft]))]) [0, 1] rfl
  have hKc := hK.sub (tys' := []) [] rfl
  refine ps_v (va_runV (As := []) (rest := []) ⟨hx, hb, hml, hown, hw0⟩ (c_needPower l dC dI h0 (.ref hd) v_buffer v_fetched v_compared v_maker v_writer i_madeDocuments i_fetchedSteps hp p_i_going p_i_writesLeft) (cwV 0 hw0 (gd_V 113 114 115 111 116 rfl rfl rfl rfl rfl) rfl rfl rfl (by decide +kernel) ⟨by decide +kernel, by decide +kernel⟩) (prV_R hPc hKc hN (va_recv hKc hPc (ci := 0) (q0 := 0) rfl rfl)) rfl rfl hl.1 rfl (lv_room (Nat.le_of_ble_eq_true rfl)) d_K_dropDocument_1 ⟨by decide +kernel, by decide +kernel⟩) ?_
  refine lv_aload_n hx hb d_K_dropDocument_4 rfl (lv_at hl 0 rfl) ?_
  refine lv_iload_n hx hb d_K_dropDocument_5 rfl (lv_at hl 1 rfl) ?_
  have hPc := hP.sub (ws' := [(h0, .inr (0, [.ref hd, v_buffer, v_fetched, v_compared, v_maker, v_writer, .ref hp, .int i_madeDocuments, .int i_fetchedSteps])), (hd, .inl (cD, 8, .inr (.inr (.inr (.inr (fun _ => none))))))]) [0, 2] rfl
  have hKc := hK.sub (tys' := [(cD, .object R_D)]) [0] rfl
  refine ps_q (va_runV (As := [.int a1]) (rest := []) ⟨hx, hb, hml, hown, hw0⟩ (c_documentAt l dC dI h0 v_buffer v_fetched v_compared v_maker v_writer (.ref hp) i_madeDocuments i_fetchedSteps hd cD a1) (cwV 1 hw0 (gd_V 108 109 110 111 112 rfl rfl rfl rfl rfl) rfl rfl rfl (by decide +kernel) ⟨by decide +kernel, by decide +kernel⟩) (prV_R hPc hKc hN (va_recv hKc hPc (ci := 0) (q0 := 0) rfl rfl)) rfl rfl hl.1 rfl (lv_room (Nat.le_of_ble_eq_true rfl)) d_K_dropDocument_6 ⟨by decide +kernel, by decide +kernel⟩) (fun r_1 hr_1 => ?_)
  obtain rfl : r_1 = none := hr_1
  refine W.eq (g2 := F0 m 9 ls [.null]) rfl ?_
  refine lv_ifnonnullN hx hb d_K_dropDocument_9 ?_
  refine lv_iconst (v := 0) hx hb d_K_dropDocument_12 (by decide) ?_
  exact W.zret (v := 0) (ty := .boolean) hx hb hr rfl (fun t ht hW => ⟨0, rfl, rfl, ht⟩) (fun q h => by cases h) d_K_dropDocument_13
set_option maxHeartbeats 4000000 in
set_option maxRecDepth 100000 in
theorem c_pieceByte (l : Launch) (dC : Nat → ClassId) (dI : Nat → Nat → Nat) (h0 : Nat) (v_buffer : Value) (v_fetched : Value) (v_compared : Value) (v_maker : Value) (v_writer : Value) (i_madeDocuments : Int32) (i_fetchedSteps : Int32) (hp : Nat) (p_i_going : Int32) (p_i_writesLeft : Int32) (hd : Nat) (cD : ClassId) (a1 : Int32) (a2 : Int32) (a3 : Int32)  : Met l y_K_pieceByte k_K_pieceByte ({ frames := 2, cells := 0, slots := 0, locals := 44 } : Room) (va_Pc [.ref h0, .int a1, .int a2, .int a3] (pc_R (dC, dI) [(h0, .inr (0, [.ref hd, v_buffer, v_fetched, v_compared, v_maker, v_writer, .ref hp, .int i_madeDocuments, .int i_fetchedSteps])), (hp, .inr (4, [.int 0, .int p_i_going, .int p_i_writesLeft])), (hd, .inl (cD, 8, .inr (.inr (.inr (.inr (fun _ => none))))))] [(cD, .object R_D)])) (vp_Si (fun r => r = (-1))) 0 0 (fun _ => False) := by
  refine Met.ofW (cc := prog_1_method_13_code) (maxL := 5) (ret := (some .int)) (by decide) rfl ?_
  intro p e s m args below meth c s₁ B hml hv
  obtain ⟨rfl, hP, hK, hN⟩ := hv
  have hx := B.exec
  have hb := B.bytes
  have hr := B.returns
  have hts := atoms_spec (ws := k_K_pieceByte) B.pre
  have hw0 : ∀ w ∈ w0, w.before _ s = true := fun w h => hts w (List.mem_cons_of_mem _ h)
  have hown : s.vm.findClass R_K = some m.cls := findClass_of_methodNamed B.named
  have hlocks := B.notSynchronized
  have hP : va_P (dC, dI) vwCl [(h0, .inr (0, [.ref hd, v_buffer, v_fetched, v_compared, v_maker, v_writer, .ref hp, .int i_madeDocuments, .int i_fetchedSteps])), (hp, .inr (4, [.int 0, .int p_i_going, .int p_i_writesLeft])), (hd, .inl (cD, 8, .inr (.inr (.inr (.inr (fun _ => none))))))] s.heap := hP
  have hl := lv_entry ([.ref h0, .int a1, .int a2, .int a3]) (n := 5) (Nat.le_of_ble_eq_true rfl)
  rw [lg_entry_eq]
  generalize (lg_sl ([.ref h0, .int a1, .int a2, .int a3]) ++ List.replicate (5 - (lg_sl ([.ref h0, .int a1, .int a2, .int a3])).length) Slot.unset).toArray = ls at hl ⊢
  have hl : lv_has ls 5 [(0, .ref h0), (1, .int a1), (2, .int a2), (3, .int a3)] := hl
  refine lv_aload_n hx hb d_K_pieceByte_0 rfl (lv_at hl 0 rfl) ?_
  have hPc := hP.sub (ws' := [(h0, .inr (0, [.ref hd, v_buffer, v_fetched, v_compared, v_maker, v_writer, .ref hp, .int i_madeDocuments, .int i_fetchedSteps])), (hp, .inr (4, [.int 0, .int p_i_going, .int p_i_writesLeft]))]) [0, 1] rfl
  have hKc := hK.sub (tys' := []) [] rfl
  refine ps_v (va_runV (As := []) (rest := []) ⟨hx, hb, hml, hown, hw0⟩ (c_needPower l dC dI h0 (.ref hd) v_buffer v_fetched v_compared v_maker v_writer i_madeDocuments i_fetchedSteps hp p_i_going p_i_writesLeft) (cwV 0 hw0 (gd_V 113 114 115 111 116 rfl rfl rfl rfl rfl) rfl rfl rfl (by decide +kernel) ⟨by decide +kernel, by decide +kernel⟩) (prV_R hPc hKc hN (va_recv hKc hPc (ci := 0) (q0 := 0) rfl rfl)) rfl rfl hl.1 rfl (lv_room (Nat.le_of_ble_eq_true rfl)) d_K_pieceByte_1 ⟨by decide +kernel, by decide +kernel⟩) ?_
  refine lv_aload_n hx hb d_K_pieceByte_4 rfl (lv_at hl 0 rfl) ?_
  refine lv_iload_n hx hb d_K_pieceByte_5 rfl (lv_at hl 1 rfl) ?_
  refine lv_iload_n hx hb d_K_pieceByte_6 rfl (lv_at hl 2 rfl) ?_
  have hPc := hP.sub (ws' := [(h0, .inr (0, [.ref hd, v_buffer, v_fetched, v_compared, v_maker, v_writer, .ref hp, .int i_madeDocuments, .int i_fetchedSteps])), (hd, .inl (cD, 8, .inr (.inr (.inr (.inr (fun _ => none))))))]) [0, 2] rfl
  have hKc := hK.sub (tys' := [(cD, .object R_D)]) [0] rfl
  refine ps_q (va_runV (As := [.int a1, .int a2]) (rest := []) ⟨hx, hb, hml, hown, hw0⟩ (c_keptRevision l dC dI h0 v_buffer v_fetched v_compared v_maker v_writer (.ref hp) i_madeDocuments i_fetchedSteps hd cD a1 a2) (cwV 2 hw0 (gd_V 117 118 119 111 120 rfl rfl rfl rfl rfl) rfl rfl rfl (by decide +kernel) ⟨by decide +kernel, by decide +kernel⟩) (prV_R hPc hKc hN (va_recv hKc hPc (ci := 0) (q0 := 0) rfl rfl)) rfl rfl hl.1 rfl (lv_room (Nat.le_of_ble_eq_true rfl)) d_K_pieceByte_7 ⟨by decide +kernel, by decide +kernel⟩) (fun r_1 hr_1 => ?_)
  obtain rfl : r_1 = none := hr_1
  refine W.eq (g2 := F0 m 10 ls [.null]) rfl ?_
  refine lv_astoreN (lv' := [(4, .null), (0, .ref h0), (1, .int a1), (2, .int a2), (3, .int a3)]) hx hb d_K_pieceByte_10 hl (by decide) rfl (fun ls hl => ?_)
  refine lv_aloadN hx hb d_K_pieceByte_12 (lv_at hl 0 rfl) ?_
  refine lv_ifnullN (tgt := 26) hx hb d_K_pieceByte_14 (by decide) ?_
  refine lv_iconst (v := (-1)) hx hb d_K_pieceByte_26 (by decide) ?_
  exact W.iret (v := (-1)) hx hb hr (fun t ht hW => ⟨(-1), rfl, rfl, ht⟩) (fun q h => by cases h) d_K_pieceByte_27
set_option maxHeartbeats 4000000 in
set_option maxRecDepth 100000 in
theorem c_damage (l : Launch) (dC : Nat → ClassId) (dI : Nat → Nat → Nat) (h0 : Nat) (v_buffer : Value) (v_fetched : Value) (v_compared : Value) (v_maker : Value) (v_writer : Value) (i_madeDocuments : Int32) (i_fetchedSteps : Int32) (hp : Nat) (p_i_going : Int32) (p_i_writesLeft : Int32) (hd : Nat) (cD : ClassId) (a1 : Int32) (a2 : Int32) (a3 : Int32) (a4 : Int32)  : Met l y_K_damage k_K_damage ({ frames := 2, cells := 0, slots := 0, locals := 44 } : Room) (va_Pc [.ref h0, .int a1, .int a2, .int a3, .int a4] (pc_R (dC, dI) [(h0, .inr (0, [.ref hd, v_buffer, v_fetched, v_compared, v_maker, v_writer, .ref hp, .int i_madeDocuments, .int i_fetchedSteps])), (hp, .inr (4, [.int 0, .int p_i_going, .int p_i_writesLeft])), (hd, .inl (cD, 8, .inr (.inr (.inr (.inr (fun _ => none))))))] [(cD, .object R_D)])) (vp_Si (fun r => r = 0)) 0 0 (fun _ => False) := by
  refine Met.ofW (cc := prog_1_method_14_code) (maxL := 6) (ret := (some .boolean)) (by decide) rfl ?_
  intro p e s m args below meth c s₁ B hml hv
  obtain ⟨rfl, hP, hK, hN⟩ := hv
  have hx := B.exec
  have hb := B.bytes
  have hr := B.returns
  have hts := atoms_spec (ws := k_K_damage) B.pre
  have hw0 : ∀ w ∈ w0, w.before _ s = true := fun w h => hts w (List.mem_cons_of_mem _ h)
  have hown : s.vm.findClass R_K = some m.cls := findClass_of_methodNamed B.named
  have hlocks := B.notSynchronized
  have hP : va_P (dC, dI) vwCl [(h0, .inr (0, [.ref hd, v_buffer, v_fetched, v_compared, v_maker, v_writer, .ref hp, .int i_madeDocuments, .int i_fetchedSteps])), (hp, .inr (4, [.int 0, .int p_i_going, .int p_i_writesLeft])), (hd, .inl (cD, 8, .inr (.inr (.inr (.inr (fun _ => none))))))] s.heap := hP
  have hl := lv_entry ([.ref h0, .int a1, .int a2, .int a3, .int a4]) (n := 6) (Nat.le_of_ble_eq_true rfl)
  rw [lg_entry_eq]
  generalize (lg_sl ([.ref h0, .int a1, .int a2, .int a3, .int a4]) ++ List.replicate (6 - (lg_sl ([.ref h0, .int a1, .int a2, .int a3, .int a4])).length) Slot.unset).toArray = ls at hl ⊢
  have hl : lv_has ls 6 [(0, .ref h0), (1, .int a1), (2, .int a2), (3, .int a3), (4, .int a4)] := hl
  refine lv_aload_n hx hb d_K_damage_0 rfl (lv_at hl 0 rfl) ?_
  have hPc := hP.sub (ws' := [(h0, .inr (0, [.ref hd, v_buffer, v_fetched, v_compared, v_maker, v_writer, .ref hp, .int i_madeDocuments, .int i_fetchedSteps])), (hp, .inr (4, [.int 0, .int p_i_going, .int p_i_writesLeft]))]) [0, 1] rfl
  have hKc := hK.sub (tys' := []) [] rfl
  refine ps_v (va_runV (As := []) (rest := []) ⟨hx, hb, hml, hown, hw0⟩ (c_needPower l dC dI h0 (.ref hd) v_buffer v_fetched v_compared v_maker v_writer i_madeDocuments i_fetchedSteps hp p_i_going p_i_writesLeft) (cwV 0 hw0 (gd_V 113 114 115 111 116 rfl rfl rfl rfl rfl) rfl rfl rfl (by decide +kernel) ⟨by decide +kernel, by decide +kernel⟩) (prV_R hPc hKc hN (va_recv hKc hPc (ci := 0) (q0 := 0) rfl rfl)) rfl rfl hl.1 rfl (lv_room (Nat.le_of_ble_eq_true rfl)) d_K_damage_1 ⟨by decide +kernel, by decide +kernel⟩) ?_
  refine lv_aload_n hx hb d_K_damage_4 rfl (lv_at hl 0 rfl) ?_
  refine lv_iload_n hx hb d_K_damage_5 rfl (lv_at hl 1 rfl) ?_
  refine lv_iload_n hx hb d_K_damage_6 rfl (lv_at hl 2 rfl) ?_
  have hPc := hP.sub (ws' := [(h0, .inr (0, [.ref hd, v_buffer, v_fetched, v_compared, v_maker, v_writer, .ref hp, .int i_madeDocuments, .int i_fetchedSteps])), (hd, .inl (cD, 8, .inr (.inr (.inr (.inr (fun _ => none))))))]) [0, 2] rfl
  have hKc := hK.sub (tys' := [(cD, .object R_D)]) [0] rfl
  refine ps_q (va_runV (As := [.int a1, .int a2]) (rest := []) ⟨hx, hb, hml, hown, hw0⟩ (c_keptRevision l dC dI h0 v_buffer v_fetched v_compared v_maker v_writer (.ref hp) i_madeDocuments i_fetchedSteps hd cD a1 a2) (cwV 2 hw0 (gd_V 117 118 119 111 120 rfl rfl rfl rfl rfl) rfl rfl rfl (by decide +kernel) ⟨by decide +kernel, by decide +kernel⟩) (prV_R hPc hKc hN (va_recv hKc hPc (ci := 0) (q0 := 0) rfl rfl)) rfl rfl hl.1 rfl (lv_room (Nat.le_of_ble_eq_true rfl)) d_K_damage_7 ⟨by decide +kernel, by decide +kernel⟩) (fun r_1 hr_1 => ?_)
  obtain rfl : r_1 = none := hr_1
  refine W.eq (g2 := F0 m 10 ls [.null]) rfl ?_
  refine lv_astoreN (lv' := [(5, .null), (0, .ref h0), (1, .int a1), (2, .int a2), (3, .int a3), (4, .int a4)]) hx hb d_K_damage_10 hl (by decide) rfl (fun ls hl => ?_)
  refine lv_aloadN hx hb d_K_damage_12 (lv_at hl 0 rfl) ?_
  refine lv_ifnullN (tgt := 26) hx hb d_K_damage_14 (by decide) ?_
  refine lv_iconst (v := 0) hx hb d_K_damage_26 (by decide) ?_
  exact W.zret (v := 0) (ty := .boolean) hx hb hr rfl (fun t ht hW => ⟨0, rfl, rfl, ht⟩) (fun q h => by cases h) d_K_damage_27
set_option maxHeartbeats 4000000 in
set_option maxRecDepth 100000 in
theorem c_verify (l : Launch) (dC : Nat → ClassId) (dI : Nat → Nat → Nat) (h0 : Nat) (v_buffer : Value) (v_fetched : Value) (v_compared : Value) (v_maker : Value) (v_writer : Value) (i_madeDocuments : Int32) (i_fetchedSteps : Int32) (hp : Nat) (p_i_going : Int32) (p_i_writesLeft : Int32) (hd : Nat) (cD : ClassId) (a1 : Int32)  : Met l y_K_verify k_K_verify ({ frames := 1, cells := 0, slots := 0, locals := 21 } : Room) (va_Pc [.ref h0, .int a1] (pc_R (dC, dI) [(h0, .inr (0, [.ref hd, v_buffer, v_fetched, v_compared, v_maker, v_writer, .ref hp, .int i_madeDocuments, .int i_fetchedSteps])), (hp, .inr (4, [.int 0, .int p_i_going, .int p_i_writesLeft])), (hd, .inl (cD, 8, .inr (.inr (.inr (.inr (fun _ => none))))))] [(cD, .object R_D)])) (vp_Si (fun r => r = (-1))) 0 0 (fun _ => False) := by
  refine Met.ofW (cc := prog_1_method_15_code) (maxL := 4) (ret := (some .int)) (by decide) rfl ?_
  intro p e s m args below meth c s₁ B hml hv
  obtain ⟨rfl, hP, hK, hN⟩ := hv
  have hx := B.exec
  have hb := B.bytes
  have hr := B.returns
  have hts := atoms_spec (ws := k_K_verify) B.pre
  have hw0 : ∀ w ∈ w0, w.before _ s = true := fun w h => hts w (List.mem_cons_of_mem _ h)
  have hown : s.vm.findClass R_K = some m.cls := findClass_of_methodNamed B.named
  have hlocks := B.notSynchronized
  have hP : va_P (dC, dI) vwCl [(h0, .inr (0, [.ref hd, v_buffer, v_fetched, v_compared, v_maker, v_writer, .ref hp, .int i_madeDocuments, .int i_fetchedSteps])), (hp, .inr (4, [.int 0, .int p_i_going, .int p_i_writesLeft])), (hd, .inl (cD, 8, .inr (.inr (.inr (.inr (fun _ => none))))))] s.heap := hP
  have hl := lv_entry ([.ref h0, .int a1]) (n := 4) (Nat.le_of_ble_eq_true rfl)
  rw [lg_entry_eq]
  generalize (lg_sl ([.ref h0, .int a1]) ++ List.replicate (4 - (lg_sl ([.ref h0, .int a1])).length) Slot.unset).toArray = ls at hl ⊢
  have hl : lv_has ls 4 [(0, .ref h0), (1, .int a1)] := hl
  refine lv_aload_n hx hb d_K_verify_0 rfl (lv_at hl 0 rfl) ?_
  have hPc := hP.sub (ws' := [(h0, .inr (0, [.ref hd, v_buffer, v_fetched, v_compared, v_maker, v_writer, .ref hp, .int i_madeDocuments, .int i_fetchedSteps])), (hp, .inr (4, [.int 0, .int p_i_going, .int p_i_writesLeft]))]) [0, 1] rfl
  have hKc := hK.sub (tys' := []) [] rfl
  refine ps_v (va_runV (As := []) (rest := []) ⟨hx, hb, hml, hown, hw0⟩ (c_needPower l dC dI h0 (.ref hd) v_buffer v_fetched v_compared v_maker v_writer i_madeDocuments i_fetchedSteps hp p_i_going p_i_writesLeft) (cwV 0 hw0 (gd_V 113 114 115 111 116 rfl rfl rfl rfl rfl) rfl rfl rfl (by decide +kernel) ⟨by decide +kernel, by decide +kernel⟩) (prV_R hPc hKc hN (va_recv hKc hPc (ci := 0) (q0 := 0) rfl rfl)) rfl rfl hl.1 rfl (lv_room (Nat.le_of_ble_eq_true rfl)) d_K_verify_1 ⟨by decide +kernel, by decide +kernel⟩) ?_
  refine lv_aload_n hx hb d_K_verify_4 rfl (lv_at hl 0 rfl) ?_
  refine lv_iload_n hx hb d_K_verify_5 rfl (lv_at hl 1 rfl) ?_
  have hPc := hP.sub (ws' := [(h0, .inr (0, [.ref hd, v_buffer, v_fetched, v_compared, v_maker, v_writer, .ref hp, .int i_madeDocuments, .int i_fetchedSteps])), (hd, .inl (cD, 8, .inr (.inr (.inr (.inr (fun _ => none))))))]) [0, 2] rfl
  have hKc := hK.sub (tys' := [(cD, .object R_D)]) [0] rfl
  refine ps_q (va_runV (As := [.int a1]) (rest := []) ⟨hx, hb, hml, hown, hw0⟩ (c_documentAt l dC dI h0 v_buffer v_fetched v_compared v_maker v_writer (.ref hp) i_madeDocuments i_fetchedSteps hd cD a1) (cwV 1 hw0 (gd_V 108 109 110 111 112 rfl rfl rfl rfl rfl) rfl rfl rfl (by decide +kernel) ⟨by decide +kernel, by decide +kernel⟩) (prV_R hPc hKc hN (va_recv hKc hPc (ci := 0) (q0 := 0) rfl rfl)) rfl rfl hl.1 rfl (lv_room (Nat.le_of_ble_eq_true rfl)) d_K_verify_6 ⟨by decide +kernel, by decide +kernel⟩) (fun r_1 hr_1 => ?_)
  obtain rfl : r_1 = none := hr_1
  refine W.eq (g2 := F0 m 9 ls [.null]) rfl ?_
  refine lv_astore_nN (lv' := [(2, .null), (0, .ref h0), (1, .int a1)]) hx hb d_K_verify_9 rfl hl (by decide) rfl (fun ls hl => ?_)
  refine lv_aload_nN hx hb d_K_verify_10 rfl (lv_at hl 0 rfl) ?_
  refine lv_ifnonnullN hx hb d_K_verify_11 ?_
  refine lv_iconst (v := (-1)) hx hb d_K_verify_14 (by decide) ?_
  exact W.iret (v := (-1)) hx hb hr (fun t ht hW => ⟨(-1), rfl, rfl, ht⟩) (fun q h => by cases h) d_K_verify_15
set_option maxHeartbeats 4000000 in
set_option maxRecDepth 100000 in
theorem c_common (l : Launch) (dC : Nat → ClassId) (dI : Nat → Nat → Nat) (h0 : Nat) (v_buffer : Value) (v_fetched : Value) (v_compared : Value) (v_maker : Value) (v_writer : Value) (i_madeDocuments : Int32) (i_fetchedSteps : Int32) (hp : Nat) (p_i_going : Int32) (p_i_writesLeft : Int32) (hd : Nat) (cD : ClassId) (a1 : Int32) (a2 : Int32) (a3 : Int32) (a4 : Int32)  : Met l y_K_common k_K_common ({ frames := 1, cells := 0, slots := 0, locals := 21 } : Room) (va_Pc [.ref h0, .int a1, .int a2, .int a3, .int a4] (pc_R (dC, dI) [(h0, .inr (0, [.ref hd, v_buffer, v_fetched, v_compared, v_maker, v_writer, .ref hp, .int i_madeDocuments, .int i_fetchedSteps])), (hp, .inr (4, [.int 0, .int p_i_going, .int p_i_writesLeft])), (hd, .inl (cD, 8, .inr (.inr (.inr (.inr (fun _ => none))))))] [(cD, .object R_D)])) (vp_Si (fun r => r = (-1))) 0 0 (fun _ => False) := by
  refine Met.ofW (cc := prog_1_method_16_code) (maxL := 9) (ret := (some .int)) (by decide) rfl ?_
  intro p e s m args below meth c s₁ B hml hv
  obtain ⟨rfl, hP, hK, hN⟩ := hv
  have hx := B.exec
  have hb := B.bytes
  have hr := B.returns
  have hts := atoms_spec (ws := k_K_common) B.pre
  have hw0 : ∀ w ∈ w0, w.before _ s = true := fun w h => hts w (List.mem_cons_of_mem _ h)
  have hown : s.vm.findClass R_K = some m.cls := findClass_of_methodNamed B.named
  have hlocks := B.notSynchronized
  have hP : va_P (dC, dI) vwCl [(h0, .inr (0, [.ref hd, v_buffer, v_fetched, v_compared, v_maker, v_writer, .ref hp, .int i_madeDocuments, .int i_fetchedSteps])), (hp, .inr (4, [.int 0, .int p_i_going, .int p_i_writesLeft])), (hd, .inl (cD, 8, .inr (.inr (.inr (.inr (fun _ => none))))))] s.heap := hP
  have hl := lv_entry ([.ref h0, .int a1, .int a2, .int a3, .int a4]) (n := 9) (Nat.le_of_ble_eq_true rfl)
  rw [lg_entry_eq]
  generalize (lg_sl ([.ref h0, .int a1, .int a2, .int a3, .int a4]) ++ List.replicate (9 - (lg_sl ([.ref h0, .int a1, .int a2, .int a3, .int a4])).length) Slot.unset).toArray = ls at hl ⊢
  have hl : lv_has ls 9 [(0, .ref h0), (1, .int a1), (2, .int a2), (3, .int a3), (4, .int a4)] := hl
  refine lv_aload_n hx hb d_K_common_0 rfl (lv_at hl 0 rfl) ?_
  have hPc := hP.sub (ws' := [(h0, .inr (0, [.ref hd, v_buffer, v_fetched, v_compared, v_maker, v_writer, .ref hp, .int i_madeDocuments, .int i_fetchedSteps])), (hp, .inr (4, [.int 0, .int p_i_going, .int p_i_writesLeft]))]) [0, 1] rfl
  have hKc := hK.sub (tys' := []) [] rfl
  refine ps_v (va_runV (As := []) (rest := []) ⟨hx, hb, hml, hown, hw0⟩ (c_needPower l dC dI h0 (.ref hd) v_buffer v_fetched v_compared v_maker v_writer i_madeDocuments i_fetchedSteps hp p_i_going p_i_writesLeft) (cwV 0 hw0 (gd_V 113 114 115 111 116 rfl rfl rfl rfl rfl) rfl rfl rfl (by decide +kernel) ⟨by decide +kernel, by decide +kernel⟩) (prV_R hPc hKc hN (va_recv hKc hPc (ci := 0) (q0 := 0) rfl rfl)) rfl rfl hl.1 rfl (lv_room (Nat.le_of_ble_eq_true rfl)) d_K_common_1 ⟨by decide +kernel, by decide +kernel⟩) ?_
  refine lv_aload_n hx hb d_K_common_4 rfl (lv_at hl 0 rfl) ?_
  refine lv_iload_n hx hb d_K_common_5 rfl (lv_at hl 1 rfl) ?_
  have hPc := hP.sub (ws' := [(h0, .inr (0, [.ref hd, v_buffer, v_fetched, v_compared, v_maker, v_writer, .ref hp, .int i_madeDocuments, .int i_fetchedSteps])), (hd, .inl (cD, 8, .inr (.inr (.inr (.inr (fun _ => none))))))]) [0, 2] rfl
  have hKc := hK.sub (tys' := [(cD, .object R_D)]) [0] rfl
  refine ps_q (va_runV (As := [.int a1]) (rest := []) ⟨hx, hb, hml, hown, hw0⟩ (c_documentAt l dC dI h0 v_buffer v_fetched v_compared v_maker v_writer (.ref hp) i_madeDocuments i_fetchedSteps hd cD a1) (cwV 1 hw0 (gd_V 108 109 110 111 112 rfl rfl rfl rfl rfl) rfl rfl rfl (by decide +kernel) ⟨by decide +kernel, by decide +kernel⟩) (prV_R hPc hKc hN (va_recv hKc hPc (ci := 0) (q0 := 0) rfl rfl)) rfl rfl hl.1 rfl (lv_room (Nat.le_of_ble_eq_true rfl)) d_K_common_6 ⟨by decide +kernel, by decide +kernel⟩) (fun r_1 hr_1 => ?_)
  obtain rfl : r_1 = none := hr_1
  refine W.eq (g2 := F0 m 9 ls [.null]) rfl ?_
  refine lv_astoreN (lv' := [(5, .null), (0, .ref h0), (1, .int a1), (2, .int a2), (3, .int a3), (4, .int a4)]) hx hb d_K_common_9 hl (by decide) rfl (fun ls hl => ?_)
  refine lv_aloadN hx hb d_K_common_11 (lv_at hl 0 rfl) ?_
  refine lv_ifnullN (tgt := 34) hx hb d_K_common_13 (by decide) ?_
  refine lv_iconst (v := (-1)) hx hb d_K_common_34 (by decide) ?_
  exact W.iret (v := (-1)) hx hb hr (fun t ht hW => ⟨(-1), rfl, rfl, ht⟩) (fun q h => by cases h) d_K_common_35
set_option maxHeartbeats 4000000 in
set_option maxRecDepth 100000 in
theorem c_byteAt0 (l : Launch) (dC : Nat → ClassId) (dI : Nat → Nat → Nat) (h0 : Nat) (v_bytes : Value) (a1 : Int32)  : Met l y_T_byteAt k_T_byteAt ({ frames := 0, cells := 0, slots := 0, locals := 0 } : Room) (va_Pc [.ref h0, .int a1] (pc_R (dC, dI) [(h0, .inr (1, [v_bytes, .int 0]))] [])) (vp_Si (fun r => r = (-1))) 0 0 (fun _ => False) := by
  refine Met.ofW (cc := prog_7_method_2_code) (maxL := 2) (ret := (some .int)) (by decide) rfl ?_
  intro p e s m args below meth c s₁ B hml hv
  obtain ⟨rfl, hP, hK, hN⟩ := hv
  have hx := B.exec
  have hb := B.bytes
  have hr := B.returns
  have hts := atoms_spec (ws := k_T_byteAt) B.pre
  have hw0 : ∀ w ∈ w0, w.before _ s = true := fun w h => hts w (List.mem_cons_of_mem _ h)
  have hown : s.vm.findClass R_T = some m.cls := findClass_of_methodNamed B.named
  have hlocks := B.notSynchronized
  have hP : va_P (dC, dI) vwCl [(h0, .inr (1, [v_bytes, .int 0]))] s.heap := hP
  have hl := lv_entry ([.ref h0, .int a1]) (n := 2) (Nat.le_of_ble_eq_true rfl)
  rw [lg_entry_eq]
  generalize (lg_sl ([.ref h0, .int a1]) ++ List.replicate (2 - (lg_sl ([.ref h0, .int a1])).length) Slot.unset).toArray = ls at hl ⊢
  have hl : lv_has ls 2 [(0, .ref h0), (1, .int a1)] := hl
  refine lv_iload_n hx hb d_T_byteAt_0 rfl (lv_at hl 1 rfl) ?_
  refine lv_if_lt (tgt := 25) hx hb d_T_byteAt_1 (by decide) (fun c_1 => ?_) (fun c_1 => ?_)
  · refine lv_iconst (v := (-1)) hx hb d_T_byteAt_25 (by decide) ?_
    exact W.iret (v := (-1)) hx hb hr (fun t ht hW => ⟨(-1), rfl, rfl, ht⟩) (fun q h => by cases h) d_T_byteAt_26
  · refine lv_iload_n hx hb d_T_byteAt_4 rfl (lv_at hl 1 rfl) ?_
    refine lv_aload_n hx hb d_T_byteAt_5 rfl (lv_at hl 0 rfl) ?_
    refine va_get (D := (dC, dI)) (ci := 1) (v := .int 0) (C := R_T) (T := F_T) (N := 2) hx hb hw0 in_T hown hK hP 0 rfl rfl 1 (by decide) (hw0 (.fieldLink R_T 15 "TextKeeper$Text" "length" "I") (List.mem_of_getElem? (i := 62) rfl)) (fun _ h9 => h9) rfl d_T_byteAt_6 ?_
    refine lv_icmp_ge (tgt := 25) hx hb d_T_byteAt_9 (by decide) (fun c_2 => ?_) (fun c_2 => (x_nn c_1 c_2).elim)
    refine lv_iconst (v := (-1)) hx hb d_T_byteAt_25 (by decide) ?_
    exact W.iret (v := (-1)) hx hb hr (fun t ht hW => ⟨(-1), rfl, rfl, ht⟩) (fun q h => by cases h) d_T_byteAt_26
set_option maxHeartbeats 4000000 in
set_option maxRecDepth 100000 in
theorem c_out (l : Launch) (dC : Nat → ClassId) (dI : Nat → Nat → Nat) (h0 : Nat) (v_documents : Value) (v_buffer : Value) (v_compared : Value) (v_maker : Value) (v_writer : Value) (i_madeDocuments : Int32) (i_fetchedSteps : Int32) (hp : Nat) (p_i_going : Int32) (p_i_writesLeft : Int32) (hf : Nat) (t_v_bytes : Value) (a1 : Int32)  : Met l y_K_out k_K_out ({ frames := 1, cells := 0, slots := 0, locals := 21 } : Room) (va_Pc [.ref h0, .int a1] (pc_R (dC, dI) [(h0, .inr (0, [v_documents, v_buffer, .ref hf, v_compared, v_maker, v_writer, .ref hp, .int i_madeDocuments, .int i_fetchedSteps])), (hp, .inr (4, [.int 0, .int p_i_going, .int p_i_writesLeft])), (hf, .inr (1, [t_v_bytes, .int 0]))] [])) (vp_Si (fun r => r = (-1))) 0 0 (fun _ => False) := by
  refine Met.ofW (cc := prog_1_method_7_code) (maxL := 2) (ret := (some .int)) (by decide) rfl ?_
  intro p e s m args below meth c s₁ B hml hv
  obtain ⟨rfl, hP, hK, hN⟩ := hv
  have hx := B.exec
  have hb := B.bytes
  have hr := B.returns
  have hts := atoms_spec (ws := k_K_out) B.pre
  have hw0 : ∀ w ∈ w0, w.before _ s = true := fun w h => hts w (List.mem_cons_of_mem _ h)
  have hown : s.vm.findClass R_K = some m.cls := findClass_of_methodNamed B.named
  have hlocks := B.notSynchronized
  have hP : va_P (dC, dI) vwCl [(h0, .inr (0, [v_documents, v_buffer, .ref hf, v_compared, v_maker, v_writer, .ref hp, .int i_madeDocuments, .int i_fetchedSteps])), (hp, .inr (4, [.int 0, .int p_i_going, .int p_i_writesLeft])), (hf, .inr (1, [t_v_bytes, .int 0]))] s.heap := hP
  have hl := lv_entry ([.ref h0, .int a1]) (n := 2) (Nat.le_of_ble_eq_true rfl)
  rw [lg_entry_eq]
  generalize (lg_sl ([.ref h0, .int a1]) ++ List.replicate (2 - (lg_sl ([.ref h0, .int a1])).length) Slot.unset).toArray = ls at hl ⊢
  have hl : lv_has ls 2 [(0, .ref h0), (1, .int a1)] := hl
  refine lv_aload_n hx hb d_K_out_0 rfl (lv_at hl 0 rfl) ?_
  have hPc := hP.sub (ws' := [(h0, .inr (0, [v_documents, v_buffer, .ref hf, v_compared, v_maker, v_writer, .ref hp, .int i_madeDocuments, .int i_fetchedSteps])), (hp, .inr (4, [.int 0, .int p_i_going, .int p_i_writesLeft]))]) [0, 1] rfl
  have hKc := hK.sub (tys' := []) [] rfl
  refine ps_v (va_runV (As := []) (rest := []) ⟨hx, hb, hml, hown, hw0⟩ (c_needPower l dC dI h0 v_documents v_buffer (.ref hf) v_compared v_maker v_writer i_madeDocuments i_fetchedSteps hp p_i_going p_i_writesLeft) (cwV 0 hw0 (gd_V 113 114 115 111 116 rfl rfl rfl rfl rfl) rfl rfl rfl (by decide +kernel) ⟨by decide +kernel, by decide +kernel⟩) (prV_R hPc hKc hN (va_recv hKc hPc (ci := 0) (q0 := 0) rfl rfl)) rfl rfl hl.1 rfl (lv_room (Nat.le_of_ble_eq_true rfl)) d_K_out_1 ⟨by decide +kernel, by decide +kernel⟩) ?_
  refine lv_aload_n hx hb d_K_out_4 rfl (lv_at hl 0 rfl) ?_
  refine va_get (D := (dC, dI)) (ci := 0) (v := .ref hf) (C := R_K) (T := F_K) (N := 9) hx hb hw0 in_K hown hK hP 0 rfl rfl 2 (by decide) (hw0 (.fieldLink R_K 22 "TextKeeper" "fetched" "LTextKeeper$Text;") (List.mem_of_getElem? (i := 83) rfl)) (fun _ h9 => h9) rfl d_K_out_5 ?_
  refine lv_iload_n hx hb d_K_out_8 rfl (lv_at hl 1 rfl) ?_
  have hPc := hP.sub (ws' := [(hf, .inr (1, [t_v_bytes, .int 0]))]) [2] rfl
  have hKc := hK.sub (tys' := []) [] rfl
  refine ps_i (va_runV (As := [.int a1]) (rest := []) ⟨hx, hb, hml, hown, hw0⟩ (c_byteAt0 l dC dI hf t_v_bytes a1) (cwV 1 hw0 (gd_V 121 122 123 69 124 rfl rfl rfl rfl rfl) rfl rfl rfl (by decide +kernel) ⟨by decide +kernel, by decide +kernel⟩) (prV_R hPc hKc hN (va_recv hKc hPc (ci := 1) (q0 := 0) rfl rfl)) rfl rfl hl.1 rfl (lv_room (Nat.le_of_ble_eq_true rfl)) d_K_out_9 ⟨by decide +kernel, by decide +kernel⟩) (fun r_1 hr_1 => ?_)
  obtain rfl : r_1 = (-1) := hr_1
  exact W.iret (v := (-1)) hx hb hr (fun t ht hW => ⟨(-1), rfl, rfl, ht⟩) (fun q h => by cases h) d_K_out_12
set_option maxHeartbeats 4000000 in
set_option maxRecDepth 100000 in
theorem c_steps (l : Launch) (dC : Nat → ClassId) (dI : Nat → Nat → Nat) (h0 : Nat) (v_documents : Value) (v_buffer : Value) (v_fetched : Value) (v_compared : Value) (v_maker : Value) (v_writer : Value) (i_madeDocuments : Int32) (hp : Nat) (p_i_going : Int32) (p_i_writesLeft : Int32)  : Met l y_K_steps k_K_steps ({ frames := 1, cells := 0, slots := 0, locals := 20 } : Room) (va_Pc [.ref h0] (pc_R (dC, dI) [(h0, .inr (0, [v_documents, v_buffer, v_fetched, v_compared, v_maker, v_writer, .ref hp, .int i_madeDocuments, .int (-1)])), (hp, .inr (4, [.int 0, .int p_i_going, .int p_i_writesLeft]))] [])) (vp_Si (fun r => r = (-1))) 0 0 (fun _ => False) := by
  refine Met.ofW (cc := prog_1_method_8_code) (maxL := 1) (ret := (some .int)) (by decide) rfl ?_
  intro p e s m args below meth c s₁ B hml hv
  obtain ⟨rfl, hP, hK, hN⟩ := hv
  have hx := B.exec
  have hb := B.bytes
  have hr := B.returns
  have hts := atoms_spec (ws := k_K_steps) B.pre
  have hw0 : ∀ w ∈ w0, w.before _ s = true := fun w h => hts w (List.mem_cons_of_mem _ h)
  have hown : s.vm.findClass R_K = some m.cls := findClass_of_methodNamed B.named
  have hlocks := B.notSynchronized
  have hP : va_P (dC, dI) vwCl [(h0, .inr (0, [v_documents, v_buffer, v_fetched, v_compared, v_maker, v_writer, .ref hp, .int i_madeDocuments, .int (-1)])), (hp, .inr (4, [.int 0, .int p_i_going, .int p_i_writesLeft]))] s.heap := hP
  have hl := lv_entry ([.ref h0]) (n := 1) (Nat.le_of_ble_eq_true rfl)
  rw [lg_entry_eq]
  generalize (lg_sl ([.ref h0]) ++ List.replicate (1 - (lg_sl ([.ref h0])).length) Slot.unset).toArray = ls at hl ⊢
  have hl : lv_has ls 1 [(0, .ref h0)] := hl
  refine lv_aload_n hx hb d_K_steps_0 rfl (lv_at hl 0 rfl) ?_
  have hPc := hP.sub (ws' := [(h0, .inr (0, [v_documents, v_buffer, v_fetched, v_compared, v_maker, v_writer, .ref hp, .int i_madeDocuments, .int (-1)])), (hp, .inr (4, [.int 0, .int p_i_going, .int p_i_writesLeft]))]) [0, 1] rfl
  have hKc := hK.sub (tys' := []) [] rfl
  refine ps_v (va_runV (As := []) (rest := []) ⟨hx, hb, hml, hown, hw0⟩ (c_needPower l dC dI h0 v_documents v_buffer v_fetched v_compared v_maker v_writer i_madeDocuments (-1) hp p_i_going p_i_writesLeft) (cwV 0 hw0 (gd_V 113 114 115 111 116 rfl rfl rfl rfl rfl) rfl rfl rfl (by decide +kernel) ⟨by decide +kernel, by decide +kernel⟩) (prV_R hPc hKc hN (va_recv hKc hPc (ci := 0) (q0 := 0) rfl rfl)) rfl rfl hl.1 rfl (lv_room (Nat.le_of_ble_eq_true rfl)) d_K_steps_1 ⟨by decide +kernel, by decide +kernel⟩) ?_
  refine lv_aload_n hx hb d_K_steps_4 rfl (lv_at hl 0 rfl) ?_
  refine va_get (D := (dC, dI)) (ci := 0) (v := .int (-1)) (C := R_K) (T := F_K) (N := 9) hx hb hw0 in_K hown hK hP 0 rfl rfl 8 (by decide) (hw0 (.fieldLink R_K 53 "TextKeeper" "fetchedSteps" "I") (List.mem_of_getElem? (i := 107) rfl)) (fun _ h9 => h9) rfl d_K_steps_5 ?_
  exact W.iret (v := (-1)) hx hb hr (fun t ht hW => ⟨(-1), rfl, rfl, ht⟩) (fun q h => by cases h) d_K_steps_8
set_option maxHeartbeats 4000000 in
set_option maxRecDepth 100000 in
theorem c_countFree (l : Launch) (dC : Nat → ClassId) (dI : Nat → Nat → Nat) (h0 : Nat) (v_buffer : Value) (v_fetched : Value) (v_compared : Value) (v_maker : Value) (v_writer : Value) (v_power : Value) (i_madeDocuments : Int32) (i_fetchedSteps : Int32) (hd : Nat) (cD : ClassId)  : Met l y_K_countFree k_K_countFree ({ frames := 0, cells := 0, slots := 0, locals := 0 } : Room) (va_Pc [.ref h0] (pc_R (dC, dI) [(h0, .inr (0, [.ref hd, v_buffer, v_fetched, v_compared, v_maker, v_writer, v_power, .int i_madeDocuments, .int i_fetchedSteps])), (hd, .inl (cD, 8, .inr (.inr (.inr (.inr (fun _ => none))))))] [(cD, .object R_D)])) (vp_Si (fun r => r = 512)) 0 0 (fun _ => False) := by
  refine Met.ofW (cc := prog_1_method_26_code) (maxL := 6) (ret := (some .int)) (by decide) rfl ?_
  intro p e s m args below meth c s₁ B hml hv
  obtain ⟨rfl, hP, hK, hN⟩ := hv
  have hx := B.exec
  have hb := B.bytes
  have hr := B.returns
  have hts := atoms_spec (ws := k_K_countFree) B.pre
  have hw0 : ∀ w ∈ w0, w.before _ s = true := fun w h => hts w (List.mem_cons_of_mem _ h)
  have hown : s.vm.findClass R_K = some m.cls := findClass_of_methodNamed B.named
  have hlocks := B.notSynchronized
  have hP : va_P (dC, dI) vwCl [(h0, .inr (0, [.ref hd, v_buffer, v_fetched, v_compared, v_maker, v_writer, v_power, .int i_madeDocuments, .int i_fetchedSteps])), (hd, .inl (cD, 8, .inr (.inr (.inr (.inr (fun _ => none))))))] s.heap := hP
  have hl := lv_entry ([.ref h0]) (n := 6) (Nat.le_of_ble_eq_true rfl)
  rw [lg_entry_eq]
  generalize (lg_sl ([.ref h0]) ++ List.replicate (6 - (lg_sl ([.ref h0])).length) Slot.unset).toArray = ls at hl ⊢
  have hl : lv_has ls 6 [(0, .ref h0)] := hl
  refine lv_sipush (v := 512) hx hb d_K_countFree_0 (by decide +kernel) ?_
  refine lv_istore_n (lv' := [(1, .int 512), (0, .ref h0)]) hx hb d_K_countFree_3 rfl hl (by decide) rfl (fun ls hl => ?_)
  refine lv_aload_n hx hb d_K_countFree_4 rfl (lv_at hl 1 rfl) ?_
  refine va_get (D := (dC, dI)) (ci := 0) (v := .ref hd) (C := R_K) (T := F_K) (N := 9) hx hb hw0 in_K hown hK hP 0 rfl rfl 0 (by decide) (hw0 (.fieldLink R_K 11 "TextKeeper" "documents" "[LTextKeeper$Document;") (List.mem_of_getElem? (i := 79) rfl)) (fun _ h9 => h9) rfl d_K_countFree_5 ?_
  refine lv_astore_n (lv' := [(2, .ref hd), (1, .int 512), (0, .ref h0)]) hx hb d_K_countFree_8 rfl hl (by decide) rfl (fun ls hl => ?_)
  refine lv_aload_n hx hb d_K_countFree_9 rfl (lv_at hl 0 rfl) ?_
  refine va_alen (v := 8) hx hb hK hP 1 0 rfl rfl (by decide +kernel) d_K_countFree_10 ?_
  refine lv_istore_n (lv' := [(3, .int 8), (2, .ref hd), (1, .int 512), (0, .ref h0)]) hx hb d_K_countFree_11 rfl hl (by decide) rfl (fun ls hl => ?_)
  refine lv_iconst (v := 0) hx hb d_K_countFree_12 (by decide) ?_
  refine lv_istore (lv' := [(4, .int 0), (3, .int 8), (2, .ref hd), (1, .int 512), (0, .ref h0)]) hx hb d_K_countFree_13 hl (by decide) rfl (fun ls hl => ?_)
  refine lv_iload hx hb d_K_countFree_15 (lv_at hl 0 rfl) ?_
  refine lv_iload_n hx hb d_K_countFree_17 rfl (lv_at hl 1 rfl) ?_
  refine lv_icmp_ge (tgt := 46) hx hb d_K_countFree_18 (by decide) (fun h9 => absurd h9 (by decide +kernel)) (fun _ => ?_)
  refine lv_aload_n hx hb d_K_countFree_21 rfl (lv_at hl 2 rfl) ?_
  refine lv_iload hx hb d_K_countFree_22 (lv_at hl 0 rfl) ?_
  refine va_aldq hx hb hK hP 1 0 rfl rfl (by unfold vp_in; decide +kernel) d_K_countFree_24 ?_
  refine W.eq (g2 := F0 m 25 ls [.null]) rfl ?_
  refine lv_astoreN (lv' := [(5, .null), (4, .int 0), (3, .int 8), (2, .ref hd), (1, .int 512), (0, .ref h0)]) hx hb d_K_countFree_25 hl (by decide) rfl (fun ls hl => ?_)
  refine lv_aloadN hx hb d_K_countFree_27 (lv_at hl 0 rfl) ?_
  refine lv_ifnullN (tgt := 40) hx hb d_K_countFree_29 (by decide) ?_
  refine lv_iinc (v := 1) (lv' := [(4, .int 1), (5, .null), (3, .int 8), (2, .ref hd), (1, .int 512), (0, .ref h0)]) hx hb d_K_countFree_40 hl (k := 1) rfl (by decide +kernel) (by decide) rfl (fun ls hl => ?_)
  refine lv_goto (tgt := 15) hx hb d_K_countFree_43 (by decide) ?_
  refine lv_iload hx hb d_K_countFree_15 (lv_at hl 0 rfl) ?_
  refine lv_iload_n hx hb d_K_countFree_17 rfl (lv_at hl 2 rfl) ?_
  refine lv_icmp_ge (tgt := 46) hx hb d_K_countFree_18 (by decide) (fun h9 => absurd h9 (by decide +kernel)) (fun _ => ?_)
  refine lv_aload_n hx hb d_K_countFree_21 rfl (lv_at hl 3 rfl) ?_
  refine lv_iload hx hb d_K_countFree_22 (lv_at hl 0 rfl) ?_
  refine va_aldq hx hb hK hP 1 0 rfl rfl (by unfold vp_in; decide +kernel) d_K_countFree_24 ?_
  refine W.eq (g2 := F0 m 25 ls [.null]) rfl ?_
  refine lv_astoreN (lv' := [(5, .null), (4, .int 1), (3, .int 8), (2, .ref hd), (1, .int 512), (0, .ref h0)]) hx hb d_K_countFree_25 hl (by decide) rfl (fun ls hl => ?_)
  refine lv_aloadN hx hb d_K_countFree_27 (lv_at hl 0 rfl) ?_
  refine lv_ifnullN (tgt := 40) hx hb d_K_countFree_29 (by decide) ?_
  refine lv_iinc (v := 2) (lv' := [(4, .int 2), (5, .null), (3, .int 8), (2, .ref hd), (1, .int 512), (0, .ref h0)]) hx hb d_K_countFree_40 hl (k := 1) rfl (by decide +kernel) (by decide) rfl (fun ls hl => ?_)
  refine lv_goto (tgt := 15) hx hb d_K_countFree_43 (by decide) ?_
  refine lv_iload hx hb d_K_countFree_15 (lv_at hl 0 rfl) ?_
  refine lv_iload_n hx hb d_K_countFree_17 rfl (lv_at hl 2 rfl) ?_
  refine lv_icmp_ge (tgt := 46) hx hb d_K_countFree_18 (by decide) (fun h9 => absurd h9 (by decide +kernel)) (fun _ => ?_)
  refine lv_aload_n hx hb d_K_countFree_21 rfl (lv_at hl 3 rfl) ?_
  refine lv_iload hx hb d_K_countFree_22 (lv_at hl 0 rfl) ?_
  refine va_aldq hx hb hK hP 1 0 rfl rfl (by unfold vp_in; decide +kernel) d_K_countFree_24 ?_
  refine W.eq (g2 := F0 m 25 ls [.null]) rfl ?_
  refine lv_astoreN (lv' := [(5, .null), (4, .int 2), (3, .int 8), (2, .ref hd), (1, .int 512), (0, .ref h0)]) hx hb d_K_countFree_25 hl (by decide) rfl (fun ls hl => ?_)
  refine lv_aloadN hx hb d_K_countFree_27 (lv_at hl 0 rfl) ?_
  refine lv_ifnullN (tgt := 40) hx hb d_K_countFree_29 (by decide) ?_
  refine lv_iinc (v := 3) (lv' := [(4, .int 3), (5, .null), (3, .int 8), (2, .ref hd), (1, .int 512), (0, .ref h0)]) hx hb d_K_countFree_40 hl (k := 1) rfl (by decide +kernel) (by decide) rfl (fun ls hl => ?_)
  refine lv_goto (tgt := 15) hx hb d_K_countFree_43 (by decide) ?_
  refine lv_iload hx hb d_K_countFree_15 (lv_at hl 0 rfl) ?_
  refine lv_iload_n hx hb d_K_countFree_17 rfl (lv_at hl 2 rfl) ?_
  refine lv_icmp_ge (tgt := 46) hx hb d_K_countFree_18 (by decide) (fun h9 => absurd h9 (by decide +kernel)) (fun _ => ?_)
  refine lv_aload_n hx hb d_K_countFree_21 rfl (lv_at hl 3 rfl) ?_
  refine lv_iload hx hb d_K_countFree_22 (lv_at hl 0 rfl) ?_
  refine va_aldq hx hb hK hP 1 0 rfl rfl (by unfold vp_in; decide +kernel) d_K_countFree_24 ?_
  refine W.eq (g2 := F0 m 25 ls [.null]) rfl ?_
  refine lv_astoreN (lv' := [(5, .null), (4, .int 3), (3, .int 8), (2, .ref hd), (1, .int 512), (0, .ref h0)]) hx hb d_K_countFree_25 hl (by decide) rfl (fun ls hl => ?_)
  refine lv_aloadN hx hb d_K_countFree_27 (lv_at hl 0 rfl) ?_
  refine lv_ifnullN (tgt := 40) hx hb d_K_countFree_29 (by decide) ?_
  refine lv_iinc (v := 4) (lv' := [(4, .int 4), (5, .null), (3, .int 8), (2, .ref hd), (1, .int 512), (0, .ref h0)]) hx hb d_K_countFree_40 hl (k := 1) rfl (by decide +kernel) (by decide) rfl (fun ls hl => ?_)
  refine lv_goto (tgt := 15) hx hb d_K_countFree_43 (by decide) ?_
  refine lv_iload hx hb d_K_countFree_15 (lv_at hl 0 rfl) ?_
  refine lv_iload_n hx hb d_K_countFree_17 rfl (lv_at hl 2 rfl) ?_
  refine lv_icmp_ge (tgt := 46) hx hb d_K_countFree_18 (by decide) (fun h9 => absurd h9 (by decide +kernel)) (fun _ => ?_)
  refine lv_aload_n hx hb d_K_countFree_21 rfl (lv_at hl 3 rfl) ?_
  refine lv_iload hx hb d_K_countFree_22 (lv_at hl 0 rfl) ?_
  refine va_aldq hx hb hK hP 1 0 rfl rfl (by unfold vp_in; decide +kernel) d_K_countFree_24 ?_
  refine W.eq (g2 := F0 m 25 ls [.null]) rfl ?_
  refine lv_astoreN (lv' := [(5, .null), (4, .int 4), (3, .int 8), (2, .ref hd), (1, .int 512), (0, .ref h0)]) hx hb d_K_countFree_25 hl (by decide) rfl (fun ls hl => ?_)
  refine lv_aloadN hx hb d_K_countFree_27 (lv_at hl 0 rfl) ?_
  refine lv_ifnullN (tgt := 40) hx hb d_K_countFree_29 (by decide) ?_
  refine lv_iinc (v := 5) (lv' := [(4, .int 5), (5, .null), (3, .int 8), (2, .ref hd), (1, .int 512), (0, .ref h0)]) hx hb d_K_countFree_40 hl (k := 1) rfl (by decide +kernel) (by decide) rfl (fun ls hl => ?_)
  refine lv_goto (tgt := 15) hx hb d_K_countFree_43 (by decide) ?_
  refine lv_iload hx hb d_K_countFree_15 (lv_at hl 0 rfl) ?_
  refine lv_iload_n hx hb d_K_countFree_17 rfl (lv_at hl 2 rfl) ?_
  refine lv_icmp_ge (tgt := 46) hx hb d_K_countFree_18 (by decide) (fun h9 => absurd h9 (by decide +kernel)) (fun _ => ?_)
  refine lv_aload_n hx hb d_K_countFree_21 rfl (lv_at hl 3 rfl) ?_
  refine lv_iload hx hb d_K_countFree_22 (lv_at hl 0 rfl) ?_
  refine va_aldq hx hb hK hP 1 0 rfl rfl (by unfold vp_in; decide +kernel) d_K_countFree_24 ?_
  refine W.eq (g2 := F0 m 25 ls [.null]) rfl ?_
  refine lv_astoreN (lv' := [(5, .null), (4, .int 5), (3, .int 8), (2, .ref hd), (1, .int 512), (0, .ref h0)]) hx hb d_K_countFree_25 hl (by decide) rfl (fun ls hl => ?_)
  refine lv_aloadN hx hb d_K_countFree_27 (lv_at hl 0 rfl) ?_
  refine lv_ifnullN (tgt := 40) hx hb d_K_countFree_29 (by decide) ?_
  refine lv_iinc (v := 6) (lv' := [(4, .int 6), (5, .null), (3, .int 8), (2, .ref hd), (1, .int 512), (0, .ref h0)]) hx hb d_K_countFree_40 hl (k := 1) rfl (by decide +kernel) (by decide) rfl (fun ls hl => ?_)
  refine lv_goto (tgt := 15) hx hb d_K_countFree_43 (by decide) ?_
  refine lv_iload hx hb d_K_countFree_15 (lv_at hl 0 rfl) ?_
  refine lv_iload_n hx hb d_K_countFree_17 rfl (lv_at hl 2 rfl) ?_
  refine lv_icmp_ge (tgt := 46) hx hb d_K_countFree_18 (by decide) (fun h9 => absurd h9 (by decide +kernel)) (fun _ => ?_)
  refine lv_aload_n hx hb d_K_countFree_21 rfl (lv_at hl 3 rfl) ?_
  refine lv_iload hx hb d_K_countFree_22 (lv_at hl 0 rfl) ?_
  refine va_aldq hx hb hK hP 1 0 rfl rfl (by unfold vp_in; decide +kernel) d_K_countFree_24 ?_
  refine W.eq (g2 := F0 m 25 ls [.null]) rfl ?_
  refine lv_astoreN (lv' := [(5, .null), (4, .int 6), (3, .int 8), (2, .ref hd), (1, .int 512), (0, .ref h0)]) hx hb d_K_countFree_25 hl (by decide) rfl (fun ls hl => ?_)
  refine lv_aloadN hx hb d_K_countFree_27 (lv_at hl 0 rfl) ?_
  refine lv_ifnullN (tgt := 40) hx hb d_K_countFree_29 (by decide) ?_
  refine lv_iinc (v := 7) (lv' := [(4, .int 7), (5, .null), (3, .int 8), (2, .ref hd), (1, .int 512), (0, .ref h0)]) hx hb d_K_countFree_40 hl (k := 1) rfl (by decide +kernel) (by decide) rfl (fun ls hl => ?_)
  refine lv_goto (tgt := 15) hx hb d_K_countFree_43 (by decide) ?_
  refine lv_iload hx hb d_K_countFree_15 (lv_at hl 0 rfl) ?_
  refine lv_iload_n hx hb d_K_countFree_17 rfl (lv_at hl 2 rfl) ?_
  refine lv_icmp_ge (tgt := 46) hx hb d_K_countFree_18 (by decide) (fun h9 => absurd h9 (by decide +kernel)) (fun _ => ?_)
  refine lv_aload_n hx hb d_K_countFree_21 rfl (lv_at hl 3 rfl) ?_
  refine lv_iload hx hb d_K_countFree_22 (lv_at hl 0 rfl) ?_
  refine va_aldq hx hb hK hP 1 0 rfl rfl (by unfold vp_in; decide +kernel) d_K_countFree_24 ?_
  refine W.eq (g2 := F0 m 25 ls [.null]) rfl ?_
  refine lv_astoreN (lv' := [(5, .null), (4, .int 7), (3, .int 8), (2, .ref hd), (1, .int 512), (0, .ref h0)]) hx hb d_K_countFree_25 hl (by decide) rfl (fun ls hl => ?_)
  refine lv_aloadN hx hb d_K_countFree_27 (lv_at hl 0 rfl) ?_
  refine lv_ifnullN (tgt := 40) hx hb d_K_countFree_29 (by decide) ?_
  refine lv_iinc (v := 8) (lv' := [(4, .int 8), (5, .null), (3, .int 8), (2, .ref hd), (1, .int 512), (0, .ref h0)]) hx hb d_K_countFree_40 hl (k := 1) rfl (by decide +kernel) (by decide) rfl (fun ls hl => ?_)
  refine lv_goto (tgt := 15) hx hb d_K_countFree_43 (by decide) ?_
  refine lv_iload hx hb d_K_countFree_15 (lv_at hl 0 rfl) ?_
  refine lv_iload_n hx hb d_K_countFree_17 rfl (lv_at hl 2 rfl) ?_
  refine lv_icmp_ge (tgt := 46) hx hb d_K_countFree_18 (by decide) (fun _ => ?_) (fun h9 => absurd h9 (by decide +kernel))
  refine lv_iload_n hx hb d_K_countFree_46 rfl (lv_at hl 4 rfl) ?_
  exact W.iret (v := 512) hx hb hr (fun t ht hW => ⟨512, rfl, rfl, ht⟩) (fun q h => by cases h) d_K_countFree_47
set_option maxHeartbeats 4000000 in
set_option maxRecDepth 100000 in
theorem c_freeBlocks (l : Launch) (dC : Nat → ClassId) (dI : Nat → Nat → Nat) (h0 : Nat) (v_buffer : Value) (v_fetched : Value) (v_compared : Value) (v_maker : Value) (v_writer : Value) (i_madeDocuments : Int32) (i_fetchedSteps : Int32) (hp : Nat) (p_i_going : Int32) (p_i_writesLeft : Int32) (hd : Nat) (cD : ClassId)  : Met l y_K_freeBlocks k_K_freeBlocks ({ frames := 1, cells := 0, slots := 0, locals := 25 } : Room) (va_Pc [.ref h0] (pc_R (dC, dI) [(h0, .inr (0, [.ref hd, v_buffer, v_fetched, v_compared, v_maker, v_writer, .ref hp, .int i_madeDocuments, .int i_fetchedSteps])), (hp, .inr (4, [.int 0, .int p_i_going, .int p_i_writesLeft])), (hd, .inl (cD, 8, .inr (.inr (.inr (.inr (fun _ => none))))))] [(cD, .object R_D)])) (vp_Si (fun r => r = 512)) 0 0 (fun _ => False) := by
  refine Met.ofW (cc := prog_1_method_17_code) (maxL := 1) (ret := (some .int)) (by decide) rfl ?_
  intro p e s m args below meth c s₁ B hml hv
  obtain ⟨rfl, hP, hK, hN⟩ := hv
  have hx := B.exec
  have hb := B.bytes
  have hr := B.returns
  have hts := atoms_spec (ws := k_K_freeBlocks) B.pre
  have hw0 : ∀ w ∈ w0, w.before _ s = true := fun w h => hts w (List.mem_cons_of_mem _ h)
  have hown : s.vm.findClass R_K = some m.cls := findClass_of_methodNamed B.named
  have hlocks := B.notSynchronized
  have hP : va_P (dC, dI) vwCl [(h0, .inr (0, [.ref hd, v_buffer, v_fetched, v_compared, v_maker, v_writer, .ref hp, .int i_madeDocuments, .int i_fetchedSteps])), (hp, .inr (4, [.int 0, .int p_i_going, .int p_i_writesLeft])), (hd, .inl (cD, 8, .inr (.inr (.inr (.inr (fun _ => none))))))] s.heap := hP
  have hl := lv_entry ([.ref h0]) (n := 1) (Nat.le_of_ble_eq_true rfl)
  rw [lg_entry_eq]
  generalize (lg_sl ([.ref h0]) ++ List.replicate (1 - (lg_sl ([.ref h0])).length) Slot.unset).toArray = ls at hl ⊢
  have hl : lv_has ls 1 [(0, .ref h0)] := hl
  refine lv_aload_n hx hb d_K_freeBlocks_0 rfl (lv_at hl 0 rfl) ?_
  have hPc := hP.sub (ws' := [(h0, .inr (0, [.ref hd, v_buffer, v_fetched, v_compared, v_maker, v_writer, .ref hp, .int i_madeDocuments, .int i_fetchedSteps])), (hp, .inr (4, [.int 0, .int p_i_going, .int p_i_writesLeft]))]) [0, 1] rfl
  have hKc := hK.sub (tys' := []) [] rfl
  refine ps_v (va_runV (As := []) (rest := []) ⟨hx, hb, hml, hown, hw0⟩ (c_needPower l dC dI h0 (.ref hd) v_buffer v_fetched v_compared v_maker v_writer i_madeDocuments i_fetchedSteps hp p_i_going p_i_writesLeft) (cwV 0 hw0 (gd_V 113 114 115 111 116 rfl rfl rfl rfl rfl) rfl rfl rfl (by decide +kernel) ⟨by decide +kernel, by decide +kernel⟩) (prV_R hPc hKc hN (va_recv hKc hPc (ci := 0) (q0 := 0) rfl rfl)) rfl rfl hl.1 rfl (lv_room (Nat.le_of_ble_eq_true rfl)) d_K_freeBlocks_1 ⟨by decide +kernel, by decide +kernel⟩) ?_
  refine lv_aload_n hx hb d_K_freeBlocks_4 rfl (lv_at hl 0 rfl) ?_
  have hPc := hP.sub (ws' := [(h0, .inr (0, [.ref hd, v_buffer, v_fetched, v_compared, v_maker, v_writer, .ref hp, .int i_madeDocuments, .int i_fetchedSteps])), (hd, .inl (cD, 8, .inr (.inr (.inr (.inr (fun _ => none))))))]) [0, 2] rfl
  have hKc := hK.sub (tys' := [(cD, .object R_D)]) [0] rfl
  refine ps_i (va_runV (As := []) (rest := []) ⟨hx, hb, hml, hown, hw0⟩ (c_countFree l dC dI h0 v_buffer v_fetched v_compared v_maker v_writer (.ref hp) i_madeDocuments i_fetchedSteps hd cD) (cwV 0 hw0 (gd_V 125 126 127 111 128 rfl rfl rfl rfl rfl) rfl rfl rfl (by decide +kernel) ⟨by decide +kernel, by decide +kernel⟩) (prV_R hPc hKc hN (va_recv hKc hPc (ci := 0) (q0 := 0) rfl rfl)) rfl rfl hl.1 rfl (lv_room (Nat.le_of_ble_eq_true rfl)) d_K_freeBlocks_5 ⟨by decide +kernel, by decide +kernel⟩) (fun r_1 hr_1 => ?_)
  obtain rfl : r_1 = 512 := hr_1
  exact W.iret (v := 512) hx hb hr (fun t ht hW => ⟨512, rfl, rfl, ht⟩) (fun q h => by cases h) d_K_freeBlocks_8
set_option maxHeartbeats 4000000 in
set_option maxRecDepth 100000 in
theorem c_start (l : Launch) (dC : Nat → ClassId) (dI : Nat → Nat → Nat) (h0 : Nat) (v_documents : Value) (v_buffer : Value) (v_fetched : Value) (v_compared : Value) (v_maker : Value) (v_writer : Value) (i_madeDocuments : Int32) (i_fetchedSteps : Int32) (hp : Nat) (p_i_going : Int32) (p_i_writesLeft : Int32)  : Met l y_K_start k_K_start ({ frames := 0, cells := 0, slots := 0, locals := 0 } : Room) (va_Pc [.ref h0] (pc_R (dC, dI) [(h0, .inr (0, [v_documents, v_buffer, v_fetched, v_compared, v_maker, v_writer, .ref hp, .int i_madeDocuments, .int i_fetchedSteps])), (hp, .inr (4, [.int 0, .int p_i_going, .int p_i_writesLeft]))] [])) (vp_Si (fun r => r = 0)) 0 0 (fun _ => False) := by
  refine Met.ofW (cc := prog_1_method_19_code) (maxL := 1) (ret := (some .boolean)) (by decide) rfl ?_
  intro p e s m args below meth c s₁ B hml hv
  obtain ⟨rfl, hP, hK, hN⟩ := hv
  have hx := B.exec
  have hb := B.bytes
  have hr := B.returns
  have hts := atoms_spec (ws := k_K_start) B.pre
  have hw0 : ∀ w ∈ w0, w.before _ s = true := fun w h => hts w (List.mem_cons_of_mem _ h)
  have hown : s.vm.findClass R_K = some m.cls := findClass_of_methodNamed B.named
  have hlocks := B.notSynchronized
  have hP : va_P (dC, dI) vwCl [(h0, .inr (0, [v_documents, v_buffer, v_fetched, v_compared, v_maker, v_writer, .ref hp, .int i_madeDocuments, .int i_fetchedSteps])), (hp, .inr (4, [.int 0, .int p_i_going, .int p_i_writesLeft]))] s.heap := hP
  have hl := lv_entry ([.ref h0]) (n := 1) (Nat.le_of_ble_eq_true rfl)
  rw [lg_entry_eq]
  generalize (lg_sl ([.ref h0]) ++ List.replicate (1 - (lg_sl ([.ref h0])).length) Slot.unset).toArray = ls at hl ⊢
  have hl : lv_has ls 1 [(0, .ref h0)] := hl
  refine lv_aload_n hx hb d_K_start_0 rfl (lv_at hl 0 rfl) ?_
  refine va_get (D := (dC, dI)) (ci := 0) (v := .ref hp) (C := R_K) (T := F_K) (N := 9) hx hb hw0 in_K hown hK hP 0 rfl rfl 6 (by decide) (hw0 (.fieldLink R_K 45 "TextKeeper" "power" "LTextKeeper$Power;") (List.mem_of_getElem? (i := 105) rfl)) (fun _ h9 => h9) rfl d_K_start_1 ?_
  refine va_getN (D := (dC, dI)) (ci := 4) (v := .int 0) (C := R_P) (T := F_P) (N := 3) hx hb hw0 in_P hown hK hP 1 rfl rfl 0 (by decide) (va_Nw.use rfl (hN.1 (.fieldLinkNest R_K 180 "TextKeeper$Power" "down" "Z" "TextKeeper") (List.mem_of_getElem? (i := 0) rfl))) (fun _ h9 => h9) rfl d_K_start_4 ?_
  refine lv_if_ne (tgt := 12) hx hb d_K_start_7 (by decide) (fun h9 => absurd h9 (by decide +kernel)) (fun _ => ?_)
  refine lv_iconst (v := 0) hx hb d_K_start_10 (by decide) ?_
  exact W.zret (v := 0) (ty := .boolean) hx hb hr rfl (fun t ht hW => ⟨0, rfl, rfl, ht⟩) (fun q h => by cases h) d_K_start_11
set_option maxHeartbeats 4000000 in
set_option maxRecDepth 100000 in
theorem c_isDown (l : Launch) (dC : Nat → ClassId) (dI : Nat → Nat → Nat) (h0 : Nat) (v_documents : Value) (v_buffer : Value) (v_fetched : Value) (v_compared : Value) (v_maker : Value) (v_writer : Value) (i_madeDocuments : Int32) (i_fetchedSteps : Int32) (hp : Nat) (p_i_going : Int32) (p_i_writesLeft : Int32)  : Met l y_K_isDown k_K_isDown ({ frames := 0, cells := 0, slots := 0, locals := 0 } : Room) (va_Pc [.ref h0] (pc_R (dC, dI) [(h0, .inr (0, [v_documents, v_buffer, v_fetched, v_compared, v_maker, v_writer, .ref hp, .int i_madeDocuments, .int i_fetchedSteps])), (hp, .inr (4, [.int 0, .int p_i_going, .int p_i_writesLeft]))] [])) (vp_Si (fun r => r = 0)) 0 0 (fun _ => False) := by
  refine Met.ofW (cc := prog_1_method_20_code) (maxL := 1) (ret := (some .boolean)) (by decide) rfl ?_
  intro p e s m args below meth c s₁ B hml hv
  obtain ⟨rfl, hP, hK, hN⟩ := hv
  have hx := B.exec
  have hb := B.bytes
  have hr := B.returns
  have hts := atoms_spec (ws := k_K_isDown) B.pre
  have hw0 : ∀ w ∈ w0, w.before _ s = true := fun w h => hts w (List.mem_cons_of_mem _ h)
  have hown : s.vm.findClass R_K = some m.cls := findClass_of_methodNamed B.named
  have hlocks := B.notSynchronized
  have hP : va_P (dC, dI) vwCl [(h0, .inr (0, [v_documents, v_buffer, v_fetched, v_compared, v_maker, v_writer, .ref hp, .int i_madeDocuments, .int i_fetchedSteps])), (hp, .inr (4, [.int 0, .int p_i_going, .int p_i_writesLeft]))] s.heap := hP
  have hl := lv_entry ([.ref h0]) (n := 1) (Nat.le_of_ble_eq_true rfl)
  rw [lg_entry_eq]
  generalize (lg_sl ([.ref h0]) ++ List.replicate (1 - (lg_sl ([.ref h0])).length) Slot.unset).toArray = ls at hl ⊢
  have hl : lv_has ls 1 [(0, .ref h0)] := hl
  refine lv_aload_n hx hb d_K_isDown_0 rfl (lv_at hl 0 rfl) ?_
  refine va_get (D := (dC, dI)) (ci := 0) (v := .ref hp) (C := R_K) (T := F_K) (N := 9) hx hb hw0 in_K hown hK hP 0 rfl rfl 6 (by decide) (hw0 (.fieldLink R_K 45 "TextKeeper" "power" "LTextKeeper$Power;") (List.mem_of_getElem? (i := 105) rfl)) (fun _ h9 => h9) rfl d_K_isDown_1 ?_
  refine va_getN (D := (dC, dI)) (ci := 4) (v := .int 0) (C := R_P) (T := F_P) (N := 3) hx hb hw0 in_P hown hK hP 1 rfl rfl 0 (by decide) (va_Nw.use rfl (hN.1 (.fieldLinkNest R_K 180 "TextKeeper$Power" "down" "Z" "TextKeeper") (List.mem_of_getElem? (i := 0) rfl))) (fun _ h9 => h9) rfl d_K_isDown_4 ?_
  exact W.zret (v := 0) (ty := .boolean) hx hb hr rfl (fun t ht hW => ⟨0, rfl, rfl, ht⟩) (fun q h => by cases h) d_K_isDown_7
end
section
set_option maxHeartbeats 4000000 in
set_option maxRecDepth 100000 in
theorem c_hasRoom20 (l : Launch) (dC : Nat → ClassId) (dI : Nat → Nat → Nat) (h0 : Nat) (v_bytes : Value)  : Met l y_T_hasRoom k_T_hasRoom ({ frames := 0, cells := 0, slots := 0, locals := 0 } : Room) (va_Pc [.ref h0, .int 20] (pc_R (dC, dI) [(h0, .inr (1, [v_bytes, .int 0]))] [])) (vp_Si (fun r => r = 1)) 0 0 (fun _ => False) := by
  refine Met.ofW (cc := prog_7_method_3_code) (maxL := 2) (ret := (some .boolean)) (by decide) rfl ?_
  intro p e s m args below meth c s₁ B hml hv
  obtain ⟨rfl, hP, hK, hN⟩ := hv
  have hx := B.exec
  have hb := B.bytes
  have hr := B.returns
  have hts := atoms_spec (ws := k_T_hasRoom) B.pre
  have hw0 : ∀ w ∈ w0, w.before _ s = true := fun w h => hts w (List.mem_cons_of_mem _ h)
  have hown : s.vm.findClass R_T = some m.cls := findClass_of_methodNamed B.named
  have hlocks := B.notSynchronized
  have hP : va_P (dC, dI) vwCl [(h0, .inr (1, [v_bytes, .int 0]))] s.heap := hP
  have hl := lv_entry ([.ref h0, .int 20]) (n := 2) (Nat.le_of_ble_eq_true rfl)
  rw [lg_entry_eq]
  generalize (lg_sl ([.ref h0, .int 20]) ++ List.replicate (2 - (lg_sl ([.ref h0, .int 20])).length) Slot.unset).toArray = ls at hl ⊢
  have hl : lv_has ls 2 [(0, .ref h0), (1, .int 20)] := hl
  refine lv_iload_n hx hb d_T_hasRoom_0 rfl (lv_at hl 1 rfl) ?_
  refine lv_sipush (v := 256) hx hb d_T_hasRoom_1 (by decide +kernel) ?_
  refine lv_aload_n hx hb d_T_hasRoom_4 rfl (lv_at hl 0 rfl) ?_
  refine va_get (D := (dC, dI)) (ci := 1) (v := .int 0) (C := R_T) (T := F_T) (N := 2) hx hb hw0 in_T hown hK hP 0 rfl rfl 1 (by decide) (hw0 (.fieldLink R_T 15 "TextKeeper$Text" "length" "I") (List.mem_of_getElem? (i := 62) rfl)) (fun _ h9 => h9) rfl d_T_hasRoom_5 ?_
  refine lv_isub hx hb d_T_hasRoom_8 ?_
  refine lv_topi (fun x_1 ex_1 => ?_)
  obtain rfl : x_1 = 256 := ex_1.trans (by decide +kernel)
  clear ex_1
  refine lv_icmp_gt (tgt := 16) hx hb d_T_hasRoom_9 (by decide) (fun h9 => absurd h9 (by decide +kernel)) (fun _ => ?_)
  refine lv_iconst (v := 1) hx hb d_T_hasRoom_12 (by decide) ?_
  refine lv_goto (tgt := 17) hx hb d_T_hasRoom_13 (by decide) ?_
  exact W.zret (v := 1) (ty := .boolean) hx hb hr rfl (fun t ht hW => ⟨1, rfl, rfl, ht⟩) (fun q h => by cases h) d_T_hasRoom_17
set_option maxHeartbeats 4000000 in
set_option maxRecDepth 100000 in
theorem c_addByte (l : Launch) (dC : Nat → ClassId) (dI : Nat → Nat → Nat) (sz : Nat) (h0 : Nat) (hy : Nat) (cB : ClassId) (k : Nat) (f : Nat → Int32) (a1 : Int32) (hk : k ≤ 256) : Met l y_T_addByte k_T_addByte ({ frames := 0, cells := 0, slots := 0, locals := 0 } : Room) (va_Pc [.ref h0, .int a1] (pc_E (dC, dI) [(h0, .inr (1, [.ref hy, .int (nI k)])), (hy, .inl (cB, 256, .inl (f)))] [(cB, .byte)] sz)) (va_Qv (fun (_ : Unit) => True) (fun (_ : Unit) t => ∃ (k2 : Nat) (f2 : Nat → Int32), (k2 ≤ 256) ∧ at_E (dC, dI) (va_A [(h0, .inr (1, [.ref hy, .int (nI k)])), (hy, .inl (cB, 256, .inl (f)))] sz) [(h0, .inr (1, [.ref hy, .int (nI k2)])), (hy, .inl (cB, 256, .inl (f2)))] [(cB, .byte)] t) (va_A [(h0, .inr (1, [.ref hy, .int (nI k)])), (hy, .inl (cB, 256, .inl (f)))] sz)) 0 0 (va_A [(h0, .inr (1, [.ref hy, .int (nI k)])), (hy, .inl (cB, 256, .inl (f)))] sz) := by
  refine Met.ofW (cc := prog_7_method_4_code) (maxL := 2) (ret := none) (by decide) rfl ?_
  intro p e s m args below meth c s₁ B hml hv
  obtain ⟨rfl, hsz, hP, hK, hD0, hN⟩ := hv
  have hx := B.exec
  have hb := B.bytes
  have hr := B.returns
  have hts := atoms_spec (ws := k_T_addByte) B.pre
  have hw0 : ∀ w ∈ w0, w.before _ s = true := fun w h => hts w (List.mem_cons_of_mem _ h)
  have hown : s.vm.findClass R_T = some m.cls := findClass_of_methodNamed B.named
  have hlocks := B.notSynchronized
  subst hsz
  have hD := hD0.self (sz := s.heap.size)
  generalize hAe : va_A [(h0, .inr (1, [.ref hy, .int (nI k)])), (hy, .inl (cB, 256, .inl (f)))] s.heap.size = A at hD ⊢
  have hA : ∀ q : Nat, s.heap.size ≤ q → A q := fun q h => by rw [← hAe]; exact Or.inr h
  have hS : va_S A s.heap s.heap [] := va_S.rf
  have hP : va_P (dC, dI) vwCl [(h0, .inr (1, [.ref hy, .int (nI k)])), (hy, .inl (cB, 256, .inl (f)))] s.heap := hP
  have hl := lv_entry ([.ref h0, .int a1]) (n := 2) (Nat.le_of_ble_eq_true rfl)
  rw [lg_entry_eq]
  generalize (lg_sl ([.ref h0, .int a1]) ++ List.replicate (2 - (lg_sl ([.ref h0, .int a1])).length) Slot.unset).toArray = ls at hl ⊢
  have hl : lv_has ls 2 [(0, .ref h0), (1, .int a1)] := hl
  refine lv_aload_n hx hb d_T_addByte_0 rfl (lv_at hl 0 rfl) ?_
  refine va_get (D := (dC, dI)) (ci := 1) (v := .int (nI k)) (C := R_T) (T := F_T) (N := 2) hx hb hw0 in_T hown hK hP 0 rfl rfl 1 (by decide) (hw0 (.fieldLink R_T 15 "TextKeeper$Text" "length" "I") (List.mem_of_getElem? (i := 62) rfl)) (fun _ h9 => h9) rfl d_T_addByte_1 ?_
  refine lv_sipush (v := 256) hx hb d_T_addByte_4 (by decide +kernel) ?_
  refine lv_icmp_ge (tgt := 31) hx hb d_T_addByte_7 (by decide) (fun c_1 => ?_) (fun c_1 => ?_)
  · have hP9 := hP.sub (ws' := [(h0, .inr (1, [.ref hy, .int (nI k)])), (hy, .inl (cB, 256, .inl (f)))]) [0, 1] rfl
    have hD9 := hD.sub (ws' := [(h0, .inr (1, [.ref hy, .int (nI k)])), (hy, .inl (cB, 256, .inl (f)))]) [0, 1] (by decide) rfl
    have hK9 := hK.sub (tys' := [(cB, .byte)]) [0] rfl
    exact W.vret hx hb hr (fun t ht hW => ⟨⟨(), rfl, trivial, k, f, hk, by rw [ht]; exact hP9, va_K.moved hW.alike hK9, hD9⟩, hS.F ht⟩) hS.2.2 d_T_addByte_31
  · refine lv_aload_n hx hb d_T_addByte_10 rfl (lv_at hl 0 rfl) ?_
    refine va_get (D := (dC, dI)) (ci := 1) (v := .ref hy) (C := R_T) (T := F_T) (N := 2) hx hb hw0 in_T hown hK hP 0 rfl rfl 0 (by decide) (hw0 (.fieldLink R_T 9 "TextKeeper$Text" "bytes" "[B") (List.mem_of_getElem? (i := 61) rfl)) (fun _ h9 => h9) rfl d_T_addByte_11 ?_
    refine lv_aload_n hx hb d_T_addByte_14 rfl (lv_at hl 0 rfl) ?_
    refine va_get (D := (dC, dI)) (ci := 1) (v := .int (nI k)) (C := R_T) (T := F_T) (N := 2) hx hb hw0 in_T hown hK hP 0 rfl rfl 1 (by decide) (hw0 (.fieldLink R_T 15 "TextKeeper$Text" "length" "I") (List.mem_of_getElem? (i := 62) rfl)) (fun _ h9 => h9) rfl d_T_addByte_15 ?_
    refine lv_iload_n hx hb d_T_addByte_18 rfl (lv_at hl 1 rfl) ?_
    obtain ⟨x_2, ex_2⟩ : ∃ y : Int32, a1.toInt8.toInt32 = y := ⟨_, rfl⟩
    refine lv_i2b (v := x_2) hx hb d_T_addByte_19 ex_2 ?_
    refine va_bast hx hb hK hP hD hS 1 0 rfl rfl (vp_in_nI (x_lt256 c_1 hk) (by decide)) d_T_addByte_20 (fun H locs hP hD hS => ?_)
    replace hP : va_P (dC, dI) vwCl [(h0, .inr (1, [.ref hy, .int (nI k)])), (hy, .inl (cB, 256, .inl (upd (f) (Int32.toNatClampNeg (nI k)) (vp_nar .byte (x_2)))))] H := hP
    replace hD : va_D A [(h0, .inr (1, [.ref hy, .int (nI k)])), (hy, .inl (cB, 256, .inl (upd (f) (Int32.toNatClampNeg (nI k)) (vp_nar .byte (x_2)))))] := hD
    generalize upd (f) (Int32.toNatClampNeg (nI k)) (vp_nar .byte (x_2)) = f_3 at hP hD
    refine lv_aload_n hx hb d_T_addByte_21 rfl (lv_at hl 0 rfl) ?_
    refine lv_dup hx hb d_T_addByte_22 rfl ?_
    refine va_get (D := (dC, dI)) (ci := 1) (v := .int (nI k)) (C := R_T) (T := F_T) (N := 2) hx hb hw0 in_T hown hK hP 0 rfl rfl 1 (by decide) (hw0 (.fieldLink R_T 15 "TextKeeper$Text" "length" "I") (List.mem_of_getElem? (i := 62) rfl)) (fun _ h9 => h9) rfl d_T_addByte_23 ?_
    refine lv_iconst (v := 1) hx hb d_T_addByte_26 (by decide) ?_
    refine lv_iadd hx hb d_T_addByte_27 ?_
    refine lv_topi (fun x_4 ex_4 => ?_)
    obtain rfl : x_4 = nI (k + 1) := ex_4.trans (nI_1 k)
    clear ex_4
    refine va_put (D := (dC, dI)) (ci := 1) (v := .int (nI (k + 1))) (ty := .int) (C := R_T) (T := F_T) (N := 2) hx hb hw0 in_T ft_T tk_T nk_T hown hK hP hD hS 0 rfl rfl 1 (by decide) (hw0 (.fieldLink R_T 15 "TextKeeper$Text" "length" "I") (List.mem_of_getElem? (i := 62) rfl)) (fun _ h9 => h9) rfl (by decide +kernel) rfl rfl (Nat.le_of_ble_eq_true rfl) d_T_addByte_28 (fun H locs hP hD hS => ?_)
    replace hP : va_P (dC, dI) vwCl [(h0, .inr (1, [.ref hy, .int (nI (k + 1))])), (hy, .inl (cB, 256, .inl (f_3)))] H := hP
    replace hD : va_D A [(h0, .inr (1, [.ref hy, .int (nI (k + 1))])), (hy, .inl (cB, 256, .inl (f_3)))] := hD
    have hP9 := hP.sub (ws' := [(h0, .inr (1, [.ref hy, .int (nI ((k + 1)))])), (hy, .inl (cB, 256, .inl (f_3)))]) [0, 1] rfl
    have hD9 := hD.sub (ws' := [(h0, .inr (1, [.ref hy, .int (nI ((k + 1)))])), (hy, .inl (cB, 256, .inl (f_3)))]) [0, 1] (by decide) rfl
    have hK9 := hK.sub (tys' := [(cB, .byte)]) [0] rfl
    exact W.vret hx hb hr (fun t ht hW => ⟨⟨(), rfl, trivial, ((k + 1)), f_3, (x_lt256 c_1 hk), by rw [ht]; exact hP9, va_K.moved hW.alike hK9, hD9⟩, hS.F ht⟩) hS.2.2 d_T_addByte_31
set_option maxHeartbeats 4000000 in
set_option maxRecDepth 100000 in
theorem c_addInt (l : Launch) (dC : Nat → ClassId) (dI : Nat → Nat → Nat) (sz : Nat) (h0 : Nat) (hy : Nat) (cB : ClassId) (k : Nat) (f : Nat → Int32) (a1 : Int32) (hk : k ≤ 256) : Met l y_T_addInt k_T_addInt ({ frames := 1, cells := 0, slots := 0, locals := 21 } : Room) (va_Pc [.ref h0, .int a1] (pc_E (dC, dI) [(h0, .inr (1, [.ref hy, .int (nI k)])), (hy, .inl (cB, 256, .inl (f)))] [(cB, .byte)] sz)) (va_Qv (fun (_ : Unit) => True) (fun (_ : Unit) t => ∃ (k2 : Nat) (f2 : Nat → Int32), (k2 ≤ 256) ∧ at_E (dC, dI) (va_A [(h0, .inr (1, [.ref hy, .int (nI k)])), (hy, .inl (cB, 256, .inl (f)))] sz) [(h0, .inr (1, [.ref hy, .int (nI k2)])), (hy, .inl (cB, 256, .inl (f2)))] [(cB, .byte)] t) (va_A [(h0, .inr (1, [.ref hy, .int (nI k)])), (hy, .inl (cB, 256, .inl (f)))] sz)) 0 0 (va_A [(h0, .inr (1, [.ref hy, .int (nI k)])), (hy, .inl (cB, 256, .inl (f)))] sz) := by
  refine Met.ofW (cc := prog_7_method_5_code) (maxL := 3) (ret := none) (by decide) rfl ?_
  intro p e s m args below meth c s₁ B hml hv
  obtain ⟨rfl, hsz, hP, hK, hD0, hN⟩ := hv
  have hx := B.exec
  have hb := B.bytes
  have hr := B.returns
  have hts := atoms_spec (ws := k_T_addInt) B.pre
  have hw0 : ∀ w ∈ w0, w.before _ s = true := fun w h => hts w (List.mem_cons_of_mem _ h)
  have hown : s.vm.findClass R_T = some m.cls := findClass_of_methodNamed B.named
  have hlocks := B.notSynchronized
  subst hsz
  have hD := hD0.self (sz := s.heap.size)
  generalize hAe : va_A [(h0, .inr (1, [.ref hy, .int (nI k)])), (hy, .inl (cB, 256, .inl (f)))] s.heap.size = A at hD ⊢
  have hA : ∀ q : Nat, s.heap.size ≤ q → A q := fun q h => by rw [← hAe]; exact Or.inr h
  have hS : va_S A s.heap s.heap [] := va_S.rf
  have hP : va_P (dC, dI) vwCl [(h0, .inr (1, [.ref hy, .int (nI k)])), (hy, .inl (cB, 256, .inl (f)))] s.heap := hP
  have hl := lv_entry ([.ref h0, .int a1]) (n := 3) (Nat.le_of_ble_eq_true rfl)
  rw [lg_entry_eq]
  generalize (lg_sl ([.ref h0, .int a1]) ++ List.replicate (3 - (lg_sl ([.ref h0, .int a1])).length) Slot.unset).toArray = ls at hl ⊢
  have hl : lv_has ls 3 [(0, .ref h0), (1, .int a1)] := hl
  refine lv_bipush (v := 24) hx hb d_T_addInt_0 (by decide +kernel) ?_
  refine lv_istore_n (lv' := [(2, .int 24), (0, .ref h0), (1, .int a1)]) hx hb d_T_addInt_2 rfl hl (by decide) rfl (fun ls hl => ?_)
  refine lv_iload_n hx hb d_T_addInt_3 rfl (lv_at hl 0 rfl) ?_
  refine lv_if_lt (tgt := 20) hx hb d_T_addInt_4 (by decide) (fun h9 => absurd h9 (by decide +kernel)) (fun _ => ?_)
  refine lv_aload_n hx hb d_T_addInt_7 rfl (lv_at hl 1 rfl) ?_
  refine lv_iload_n hx hb d_T_addInt_8 rfl (lv_at hl 2 rfl) ?_
  refine lv_iload_n hx hb d_T_addInt_9 rfl (lv_at hl 0 rfl) ?_
  refine lv_ishr hx hb d_T_addInt_10 ?_
  refine lv_topi (fun x_1 ex_1 => ?_)
  have hPc := hP.sub (ws' := [(h0, .inr (1, [.ref hy, .int (nI k)])), (hy, .inl (cB, 256, .inl ((f))))]) [0, 1] rfl
  have hKc := hK.sub (tys' := [(cB, .byte)]) [0] rfl
  have hDc := hD.sub (ws' := [(h0, .inr (1, [.ref hy, .int (nI k)])), (hy, .inl (cB, 256, .inl ((f))))]) [0, 1] (by decide) rfl
  have hFc := va_free (wc := [(h0, .inr (1, [.ref hy, .int (nI k)])), (hy, .inl (cB, 256, .inl ((f))))]) hD hS hA [0, 1] rfl
  refine va_callv (va_runV (As := [.int x_1]) (rest := []) ⟨hx, hb, hml, hown, hw0⟩ (c_addByte l dC dI s.heap.size h0 hy cB k (f) x_1 (by first | assumption | decide | omega)) (cwV 1 hw0 (gd_V 129 130 131 69 132 rfl rfl rfl rfl rfl) rfl rfl rfl (by decide +kernel) ⟨by decide +kernel, by decide +kernel⟩) (prV_E hPc hKc hDc hN (va_recv hKc hPc (ci := 1) (q0 := 0) rfl rfl)) rfl rfl hl.1 rfl (lv_room (Nat.le_of_ble_eq_true rfl)) d_T_addInt_11 ⟨by decide +kernel, by decide +kernel⟩) hS (fun q _ h => hFc q h) hFc (fun u t H1 locs ht hvm hw hB hz1 hk1 hS => ?_)
  obtain ⟨k2_2, f2_3, hu_4, hP1, hK1, hD1⟩ := hB
  rw [ht] at hP1
  have hK1 := va_K.moved hvm.symm hK1
  try dsimp only at hw
  obtain ⟨hP, hD⟩ := va_join (wr := []) (w1 := [(h0, .inr (1, [.ref hy, .int (nI k2_2)])), (hy, .inl (cB, 256, .inl (f2_3)))]) hP hD [0, 1] [] rfl rfl (by decide) (by decide) hk1 hFc hP1 hD1
  generalize H1 = H at hP hS ⊢
  replace hP : va_P (dC, dI) vwCl [(h0, .inr (1, [.ref hy, .int (nI k2_2)])), (hy, .inl (cB, 256, .inl (f2_3)))] H := hP
  replace hD : va_D A [(h0, .inr (1, [.ref hy, .int (nI k2_2)])), (hy, .inl (cB, 256, .inl (f2_3)))] := hD
  replace hK : va_K (dC, dI) vwCl [(cB, .byte)] s := hK
  refine lv_iinc (v := 16) (lv' := [(2, .int 16), (0, .ref h0), (1, .int a1)]) hx hb d_T_addInt_14 hl (k := 0) rfl (by decide +kernel) (by decide) rfl (fun ls hl => ?_)
  refine lv_goto (tgt := 3) hx hb d_T_addInt_17 (by decide) ?_
  refine lv_iload_n hx hb d_T_addInt_3 rfl (lv_at hl 0 rfl) ?_
  refine lv_if_lt (tgt := 20) hx hb d_T_addInt_4 (by decide) (fun h9 => absurd h9 (by decide +kernel)) (fun _ => ?_)
  refine lv_aload_n hx hb d_T_addInt_7 rfl (lv_at hl 1 rfl) ?_
  refine lv_iload_n hx hb d_T_addInt_8 rfl (lv_at hl 2 rfl) ?_
  refine lv_iload_n hx hb d_T_addInt_9 rfl (lv_at hl 0 rfl) ?_
  refine lv_ishr hx hb d_T_addInt_10 ?_
  refine lv_topi (fun x_5 ex_5 => ?_)
  have hPc := hP.sub (ws' := [(h0, .inr (1, [.ref hy, .int (nI k2_2)])), (hy, .inl (cB, 256, .inl ((f2_3))))]) [0, 1] rfl
  have hKc := hK.sub (tys' := [(cB, .byte)]) [0] rfl
  have hDc := hD.sub (ws' := [(h0, .inr (1, [.ref hy, .int (nI k2_2)])), (hy, .inl (cB, 256, .inl ((f2_3))))]) [0, 1] (by decide) rfl
  have hFc := va_free (wc := [(h0, .inr (1, [.ref hy, .int (nI k2_2)])), (hy, .inl (cB, 256, .inl ((f2_3))))]) hD hS hA [0, 1] rfl
  refine va_callv (va_runV (As := [.int x_5]) (rest := []) ⟨hx, hb, hml, hown, hw0⟩ (c_addByte l dC dI H.size h0 hy cB k2_2 (f2_3) x_5 (by first | assumption | decide | omega)) (cwV 1 hw0 (gd_V 129 130 131 69 132 rfl rfl rfl rfl rfl) rfl rfl rfl (by decide +kernel) ⟨by decide +kernel, by decide +kernel⟩) (prV_E hPc hKc hDc hN (va_recv hKc hPc (ci := 1) (q0 := 0) rfl rfl)) rfl rfl hl.1 rfl (lv_room (Nat.le_of_ble_eq_true rfl)) d_T_addInt_11 ⟨by decide +kernel, by decide +kernel⟩) hS (fun q _ h => hFc q h) hFc (fun u t H1 locs ht hvm hw hB hz1 hk1 hS => ?_)
  obtain ⟨k2_6, f2_7, hu_8, hP1, hK1, hD1⟩ := hB
  rw [ht] at hP1
  have hK1 := va_K.moved hvm.symm hK1
  try dsimp only at hw
  obtain ⟨hP, hD⟩ := va_join (wr := []) (w1 := [(h0, .inr (1, [.ref hy, .int (nI k2_6)])), (hy, .inl (cB, 256, .inl (f2_7)))]) hP hD [0, 1] [] rfl rfl (by decide) (by decide) hk1 hFc hP1 hD1
  generalize H1 = H at hP hS ⊢
  replace hP : va_P (dC, dI) vwCl [(h0, .inr (1, [.ref hy, .int (nI k2_6)])), (hy, .inl (cB, 256, .inl (f2_7)))] H := hP
  replace hD : va_D A [(h0, .inr (1, [.ref hy, .int (nI k2_6)])), (hy, .inl (cB, 256, .inl (f2_7)))] := hD
  replace hK : va_K (dC, dI) vwCl [(cB, .byte)] s := hK
  refine lv_iinc (v := 8) (lv' := [(2, .int 8), (0, .ref h0), (1, .int a1)]) hx hb d_T_addInt_14 hl (k := 0) rfl (by decide +kernel) (by decide) rfl (fun ls hl => ?_)
  refine lv_goto (tgt := 3) hx hb d_T_addInt_17 (by decide) ?_
  refine lv_iload_n hx hb d_T_addInt_3 rfl (lv_at hl 0 rfl) ?_
  refine lv_if_lt (tgt := 20) hx hb d_T_addInt_4 (by decide) (fun h9 => absurd h9 (by decide +kernel)) (fun _ => ?_)
  refine lv_aload_n hx hb d_T_addInt_7 rfl (lv_at hl 1 rfl) ?_
  refine lv_iload_n hx hb d_T_addInt_8 rfl (lv_at hl 2 rfl) ?_
  refine lv_iload_n hx hb d_T_addInt_9 rfl (lv_at hl 0 rfl) ?_
  refine lv_ishr hx hb d_T_addInt_10 ?_
  refine lv_topi (fun x_9 ex_9 => ?_)
  have hPc := hP.sub (ws' := [(h0, .inr (1, [.ref hy, .int (nI k2_6)])), (hy, .inl (cB, 256, .inl ((f2_7))))]) [0, 1] rfl
  have hKc := hK.sub (tys' := [(cB, .byte)]) [0] rfl
  have hDc := hD.sub (ws' := [(h0, .inr (1, [.ref hy, .int (nI k2_6)])), (hy, .inl (cB, 256, .inl ((f2_7))))]) [0, 1] (by decide) rfl
  have hFc := va_free (wc := [(h0, .inr (1, [.ref hy, .int (nI k2_6)])), (hy, .inl (cB, 256, .inl ((f2_7))))]) hD hS hA [0, 1] rfl
  refine va_callv (va_runV (As := [.int x_9]) (rest := []) ⟨hx, hb, hml, hown, hw0⟩ (c_addByte l dC dI H.size h0 hy cB k2_6 (f2_7) x_9 (by first | assumption | decide | omega)) (cwV 1 hw0 (gd_V 129 130 131 69 132 rfl rfl rfl rfl rfl) rfl rfl rfl (by decide +kernel) ⟨by decide +kernel, by decide +kernel⟩) (prV_E hPc hKc hDc hN (va_recv hKc hPc (ci := 1) (q0 := 0) rfl rfl)) rfl rfl hl.1 rfl (lv_room (Nat.le_of_ble_eq_true rfl)) d_T_addInt_11 ⟨by decide +kernel, by decide +kernel⟩) hS (fun q _ h => hFc q h) hFc (fun u t H1 locs ht hvm hw hB hz1 hk1 hS => ?_)
  obtain ⟨k2_10, f2_11, hu_12, hP1, hK1, hD1⟩ := hB
  rw [ht] at hP1
  have hK1 := va_K.moved hvm.symm hK1
  try dsimp only at hw
  obtain ⟨hP, hD⟩ := va_join (wr := []) (w1 := [(h0, .inr (1, [.ref hy, .int (nI k2_10)])), (hy, .inl (cB, 256, .inl (f2_11)))]) hP hD [0, 1] [] rfl rfl (by decide) (by decide) hk1 hFc hP1 hD1
  generalize H1 = H at hP hS ⊢
  replace hP : va_P (dC, dI) vwCl [(h0, .inr (1, [.ref hy, .int (nI k2_10)])), (hy, .inl (cB, 256, .inl (f2_11)))] H := hP
  replace hD : va_D A [(h0, .inr (1, [.ref hy, .int (nI k2_10)])), (hy, .inl (cB, 256, .inl (f2_11)))] := hD
  replace hK : va_K (dC, dI) vwCl [(cB, .byte)] s := hK
  refine lv_iinc (v := 0) (lv' := [(2, .int 0), (0, .ref h0), (1, .int a1)]) hx hb d_T_addInt_14 hl (k := 0) rfl (by decide +kernel) (by decide) rfl (fun ls hl => ?_)
  refine lv_goto (tgt := 3) hx hb d_T_addInt_17 (by decide) ?_
  refine lv_iload_n hx hb d_T_addInt_3 rfl (lv_at hl 0 rfl) ?_
  refine lv_if_lt (tgt := 20) hx hb d_T_addInt_4 (by decide) (fun h9 => absurd h9 (by decide +kernel)) (fun _ => ?_)
  refine lv_aload_n hx hb d_T_addInt_7 rfl (lv_at hl 1 rfl) ?_
  refine lv_iload_n hx hb d_T_addInt_8 rfl (lv_at hl 2 rfl) ?_
  refine lv_iload_n hx hb d_T_addInt_9 rfl (lv_at hl 0 rfl) ?_
  refine lv_ishr hx hb d_T_addInt_10 ?_
  refine lv_topi (fun x_13 ex_13 => ?_)
  have hPc := hP.sub (ws' := [(h0, .inr (1, [.ref hy, .int (nI k2_10)])), (hy, .inl (cB, 256, .inl ((f2_11))))]) [0, 1] rfl
  have hKc := hK.sub (tys' := [(cB, .byte)]) [0] rfl
  have hDc := hD.sub (ws' := [(h0, .inr (1, [.ref hy, .int (nI k2_10)])), (hy, .inl (cB, 256, .inl ((f2_11))))]) [0, 1] (by decide) rfl
  have hFc := va_free (wc := [(h0, .inr (1, [.ref hy, .int (nI k2_10)])), (hy, .inl (cB, 256, .inl ((f2_11))))]) hD hS hA [0, 1] rfl
  refine va_callv (va_runV (As := [.int x_13]) (rest := []) ⟨hx, hb, hml, hown, hw0⟩ (c_addByte l dC dI H.size h0 hy cB k2_10 (f2_11) x_13 (by first | assumption | decide | omega)) (cwV 1 hw0 (gd_V 129 130 131 69 132 rfl rfl rfl rfl rfl) rfl rfl rfl (by decide +kernel) ⟨by decide +kernel, by decide +kernel⟩) (prV_E hPc hKc hDc hN (va_recv hKc hPc (ci := 1) (q0 := 0) rfl rfl)) rfl rfl hl.1 rfl (lv_room (Nat.le_of_ble_eq_true rfl)) d_T_addInt_11 ⟨by decide +kernel, by decide +kernel⟩) hS (fun q _ h => hFc q h) hFc (fun u t H1 locs ht hvm hw hB hz1 hk1 hS => ?_)
  obtain ⟨k2_14, f2_15, hu_16, hP1, hK1, hD1⟩ := hB
  rw [ht] at hP1
  have hK1 := va_K.moved hvm.symm hK1
  try dsimp only at hw
  obtain ⟨hP, hD⟩ := va_join (wr := []) (w1 := [(h0, .inr (1, [.ref hy, .int (nI k2_14)])), (hy, .inl (cB, 256, .inl (f2_15)))]) hP hD [0, 1] [] rfl rfl (by decide) (by decide) hk1 hFc hP1 hD1
  generalize H1 = H at hP hS ⊢
  replace hP : va_P (dC, dI) vwCl [(h0, .inr (1, [.ref hy, .int (nI k2_14)])), (hy, .inl (cB, 256, .inl (f2_15)))] H := hP
  replace hD : va_D A [(h0, .inr (1, [.ref hy, .int (nI k2_14)])), (hy, .inl (cB, 256, .inl (f2_15)))] := hD
  replace hK : va_K (dC, dI) vwCl [(cB, .byte)] s := hK
  refine lv_iinc (v := (-8)) (lv' := [(2, .int (-8)), (0, .ref h0), (1, .int a1)]) hx hb d_T_addInt_14 hl (k := 0) rfl (by decide +kernel) (by decide) rfl (fun ls hl => ?_)
  refine lv_goto (tgt := 3) hx hb d_T_addInt_17 (by decide) ?_
  refine lv_iload_n hx hb d_T_addInt_3 rfl (lv_at hl 0 rfl) ?_
  refine lv_if_lt (tgt := 20) hx hb d_T_addInt_4 (by decide) (fun _ => ?_) (fun h9 => absurd h9 (by decide +kernel))
  have hP9 := hP.sub (ws' := [(h0, .inr (1, [.ref hy, .int (nI k2_14)])), (hy, .inl (cB, 256, .inl (f2_15)))]) [0, 1] rfl
  have hD9 := hD.sub (ws' := [(h0, .inr (1, [.ref hy, .int (nI k2_14)])), (hy, .inl (cB, 256, .inl (f2_15)))]) [0, 1] (by decide) rfl
  have hK9 := hK.sub (tys' := [(cB, .byte)]) [0] rfl
  exact W.vret hx hb hr (fun t ht hW => ⟨⟨(), rfl, trivial, k2_14, f2_15, (by assumption), by rw [ht]; exact hP9, va_K.moved hW.alike hK9, hD9⟩, hS.F ht⟩) hS.2.2 d_T_addInt_20
set_option maxHeartbeats 4000000 in
set_option maxRecDepth 100000 in
theorem c_feed (l : Launch) (dC : Nat → ClassId) (dI : Nat → Nat → Nat) (sz : Nat) (h0 : Nat) (v_documents : Value) (v_fetched : Value) (v_compared : Value) (v_maker : Value) (v_writer : Value) (i_madeDocuments : Int32) (i_fetchedSteps : Int32) (hp : Nat) (p_i_going : Int32) (p_i_writesLeft : Int32) (hb1 : Nat) (hy : Nat) (cB : ClassId) (f : Nat → Int32) (a1 : Int32) (a2 : Int32) (a3 : Int32) (a4 : Int32) (a5 : Int32)  : Met l y_K_feed k_K_feed ({ frames := 2, cells := 0, slots := 0, locals := 43 } : Room) (va_Pc [.ref h0, .int a1, .int a2, .int a3, .int a4, .int a5] (pc_E (dC, dI) [(h0, .inr (0, [v_documents, .ref hb1, v_fetched, v_compared, v_maker, v_writer, .ref hp, .int i_madeDocuments, .int i_fetchedSteps])), (hp, .inr (4, [.int 0, .int p_i_going, .int p_i_writesLeft])), (hb1, .inr (1, [.ref hy, .int 0])), (hy, .inl (cB, 256, .inl (f)))] [(cB, .byte)] sz)) (va_Qi (fun (r : Int32) (_ : Unit) => r = 1) (fun (_ : Unit) t => at_E (dC, dI) (va_A [(h0, .inr (0, [v_documents, .ref hb1, v_fetched, v_compared, v_maker, v_writer, .ref hp, .int i_madeDocuments, .int i_fetchedSteps])), (hp, .inr (4, [.int 0, .int p_i_going, .int p_i_writesLeft])), (hb1, .inr (1, [.ref hy, .int 0])), (hy, .inl (cB, 256, .inl (f)))] sz) [] [] t) (va_A [(h0, .inr (0, [v_documents, .ref hb1, v_fetched, v_compared, v_maker, v_writer, .ref hp, .int i_madeDocuments, .int i_fetchedSteps])), (hp, .inr (4, [.int 0, .int p_i_going, .int p_i_writesLeft])), (hb1, .inr (1, [.ref hy, .int 0])), (hy, .inl (cB, 256, .inl (f)))] sz)) 0 0 (va_A [(h0, .inr (0, [v_documents, .ref hb1, v_fetched, v_compared, v_maker, v_writer, .ref hp, .int i_madeDocuments, .int i_fetchedSteps])), (hp, .inr (4, [.int 0, .int p_i_going, .int p_i_writesLeft])), (hb1, .inr (1, [.ref hy, .int 0])), (hy, .inl (cB, 256, .inl (f)))] sz) := by
  refine Met.ofW (cc := prog_1_method_2_code) (maxL := 6) (ret := (some .boolean)) (by decide) rfl ?_
  intro p e s m args below meth c s₁ B hml hv
  obtain ⟨rfl, hsz, hP, hK, hD0, hN⟩ := hv
  have hx := B.exec
  have hb := B.bytes
  have hr := B.returns
  have hts := atoms_spec (ws := k_K_feed) B.pre
  have hw0 : ∀ w ∈ w0, w.before _ s = true := fun w h => hts w (List.mem_cons_of_mem _ h)
  have hown : s.vm.findClass R_K = some m.cls := findClass_of_methodNamed B.named
  have hlocks := B.notSynchronized
  subst hsz
  have hD := hD0.self (sz := s.heap.size)
  generalize hAe : va_A [(h0, .inr (0, [v_documents, .ref hb1, v_fetched, v_compared, v_maker, v_writer, .ref hp, .int i_madeDocuments, .int i_fetchedSteps])), (hp, .inr (4, [.int 0, .int p_i_going, .int p_i_writesLeft])), (hb1, .inr (1, [.ref hy, .int 0])), (hy, .inl (cB, 256, .inl (f)))] s.heap.size = A at hD ⊢
  have hA : ∀ q : Nat, s.heap.size ≤ q → A q := fun q h => by rw [← hAe]; exact Or.inr h
  have hS : va_S A s.heap s.heap [] := va_S.rf
  have hP : va_P (dC, dI) vwCl [(h0, .inr (0, [v_documents, .ref hb1, v_fetched, v_compared, v_maker, v_writer, .ref hp, .int i_madeDocuments, .int i_fetchedSteps])), (hp, .inr (4, [.int 0, .int p_i_going, .int p_i_writesLeft])), (hb1, .inr (1, [.ref hy, .int 0])), (hy, .inl (cB, 256, .inl (f)))] s.heap := hP
  have hl := lv_entry ([.ref h0, .int a1, .int a2, .int a3, .int a4, .int a5]) (n := 6) (Nat.le_of_ble_eq_true rfl)
  rw [lg_entry_eq]
  generalize (lg_sl ([.ref h0, .int a1, .int a2, .int a3, .int a4, .int a5]) ++ List.replicate (6 - (lg_sl ([.ref h0, .int a1, .int a2, .int a3, .int a4, .int a5])).length) Slot.unset).toArray = ls at hl ⊢
  have hl : lv_has ls 6 [(0, .ref h0), (1, .int a1), (2, .int a2), (3, .int a3), (4, .int a4), (5, .int a5)] := hl
  refine lv_aload_n hx hb d_K_feed_0 rfl (lv_at hl 0 rfl) ?_
  have hPc := hP.sub (ws' := [(h0, .inr (0, [v_documents, .ref hb1, v_fetched, v_compared, v_maker, v_writer, .ref hp, .int i_madeDocuments, .int i_fetchedSteps])), (hp, .inr (4, [.int 0, .int p_i_going, .int p_i_writesLeft]))]) [0, 1] rfl
  have hKc := hK.sub (tys' := []) [] rfl
  refine ps_v (va_runV (As := []) (rest := []) ⟨hx, hb, hml, hown, hw0⟩ (c_needPower l dC dI h0 v_documents (.ref hb1) v_fetched v_compared v_maker v_writer i_madeDocuments i_fetchedSteps hp p_i_going p_i_writesLeft) (cwV 0 hw0 (gd_V 113 114 115 111 116 rfl rfl rfl rfl rfl) rfl rfl rfl (by decide +kernel) ⟨by decide +kernel, by decide +kernel⟩) (prV_R hPc hKc hN (va_recv hKc hPc (ci := 0) (q0 := 0) rfl rfl)) rfl rfl hl.1 rfl (lv_room (Nat.le_of_ble_eq_true rfl)) d_K_feed_1 ⟨by decide +kernel, by decide +kernel⟩) ?_
  refine lv_aload_n hx hb d_K_feed_4 rfl (lv_at hl 0 rfl) ?_
  refine va_get (D := (dC, dI)) (ci := 0) (v := .ref hb1) (C := R_K) (T := F_K) (N := 9) hx hb hw0 in_K hown hK hP 0 rfl rfl 1 (by decide) (hw0 (.fieldLink R_K 18 "TextKeeper" "buffer" "LTextKeeper$Text;") (List.mem_of_getElem? (i := 82) rfl)) (fun _ h9 => h9) rfl d_K_feed_5 ?_
  refine lv_bipush (v := 20) hx hb d_K_feed_8 (by decide +kernel) ?_
  have hPc := hP.sub (ws' := [(hb1, .inr (1, [.ref hy, .int 0]))]) [2] rfl
  have hKc := hK.sub (tys' := []) [] rfl
  refine ps_i (va_runV (As := [.int 20]) (rest := []) ⟨hx, hb, hml, hown, hw0⟩ (c_hasRoom20 l dC dI hb1 (.ref hy)) (cwV 1 hw0 (gd_V 133 134 135 69 136 rfl rfl rfl rfl rfl) rfl rfl rfl (by decide +kernel) ⟨by decide +kernel, by decide +kernel⟩) (prV_R hPc hKc hN (va_recv hKc hPc (ci := 1) (q0 := 0) rfl rfl)) rfl rfl hl.1 rfl (lv_room (Nat.le_of_ble_eq_true rfl)) d_K_feed_10 ⟨by decide +kernel, by decide +kernel⟩) (fun r_1 hr_1 => ?_)
  obtain rfl : r_1 = 1 := hr_1
  refine lv_if_ne (tgt := 18) hx hb d_K_feed_13 (by decide) (fun _ => ?_) (fun h9 => absurd h9 (by decide +kernel))
  refine lv_aload_n hx hb d_K_feed_18 rfl (lv_at hl 0 rfl) ?_
  refine va_get (D := (dC, dI)) (ci := 0) (v := .ref hb1) (C := R_K) (T := F_K) (N := 9) hx hb hw0 in_K hown hK hP 0 rfl rfl 1 (by decide) (hw0 (.fieldLink R_K 18 "TextKeeper" "buffer" "LTextKeeper$Text;") (List.mem_of_getElem? (i := 82) rfl)) (fun _ h9 => h9) rfl d_K_feed_19 ?_
  refine lv_iload_n hx hb d_K_feed_22 rfl (lv_at hl 1 rfl) ?_
  have hPc := hP.sub (ws' := [(hb1, .inr (1, [.ref hy, .int (nI 0)])), (hy, .inl (cB, 256, .inl ((f))))]) [2, 3] rfl
  have hKc := hK.sub (tys' := [(cB, .byte)]) [0] rfl
  have hDc := hD.sub (ws' := [(hb1, .inr (1, [.ref hy, .int (nI 0)])), (hy, .inl (cB, 256, .inl ((f))))]) [2, 3] (by decide) rfl
  have hFc := va_free (wc := [(hb1, .inr (1, [.ref hy, .int (nI 0)])), (hy, .inl (cB, 256, .inl ((f))))]) hD hS hA [2, 3] rfl
  refine va_callv (va_runV (As := [.int a1]) (rest := []) ⟨hx, hb, hml, hown, hw0⟩ (c_addInt l dC dI s.heap.size hb1 hy cB 0 (f) a1 (by first | assumption | decide | omega)) (cwV 1 hw0 (gd_V 137 138 139 69 140 rfl rfl rfl rfl rfl) rfl rfl rfl (by decide +kernel) ⟨by decide +kernel, by decide +kernel⟩) (prV_E hPc hKc hDc hN (va_recv hKc hPc (ci := 1) (q0 := 0) rfl rfl)) rfl rfl hl.1 rfl (lv_room (Nat.le_of_ble_eq_true rfl)) d_K_feed_23 ⟨by decide +kernel, by decide +kernel⟩) hS (fun q _ h => hFc q h) hFc (fun u t H1 locs ht hvm hw hB hz1 hk1 hS => ?_)
  obtain ⟨k2_2, f2_3, hu_4, hP1, hK1, hD1⟩ := hB
  rw [ht] at hP1
  have hK1 := va_K.moved hvm.symm hK1
  try dsimp only at hw
  obtain ⟨hP, hD⟩ := va_join (wr := [(h0, .inr (0, [v_documents, .ref hb1, v_fetched, v_compared, v_maker, v_writer, .ref hp, .int i_madeDocuments, .int i_fetchedSteps])), (hp, .inr (4, [.int 0, .int p_i_going, .int p_i_writesLeft]))]) (w1 := [(hb1, .inr (1, [.ref hy, .int (nI k2_2)])), (hy, .inl (cB, 256, .inl (f2_3)))]) hP hD [2, 3] [0, 1] rfl rfl (by decide) (by decide) hk1 hFc hP1 hD1
  generalize H1 = H at hP hS ⊢
  replace hP : va_P (dC, dI) vwCl [(h0, .inr (0, [v_documents, .ref hb1, v_fetched, v_compared, v_maker, v_writer, .ref hp, .int i_madeDocuments, .int i_fetchedSteps])), (hp, .inr (4, [.int 0, .int p_i_going, .int p_i_writesLeft])), (hb1, .inr (1, [.ref hy, .int (nI k2_2)])), (hy, .inl (cB, 256, .inl (f2_3)))] H := hP
  replace hD : va_D A [(h0, .inr (0, [v_documents, .ref hb1, v_fetched, v_compared, v_maker, v_writer, .ref hp, .int i_madeDocuments, .int i_fetchedSteps])), (hp, .inr (4, [.int 0, .int p_i_going, .int p_i_writesLeft])), (hb1, .inr (1, [.ref hy, .int (nI k2_2)])), (hy, .inl (cB, 256, .inl (f2_3)))] := hD
  replace hK : va_K (dC, dI) vwCl [(cB, .byte)] s := hK
  refine lv_aload_n hx hb d_K_feed_26 rfl (lv_at hl 0 rfl) ?_
  refine va_get (D := (dC, dI)) (ci := 0) (v := .ref hb1) (C := R_K) (T := F_K) (N := 9) hx hb hw0 in_K hown hK hP 0 rfl rfl 1 (by decide) (hw0 (.fieldLink R_K 18 "TextKeeper" "buffer" "LTextKeeper$Text;") (List.mem_of_getElem? (i := 82) rfl)) (fun _ h9 => h9) rfl d_K_feed_27 ?_
  refine lv_iload_n hx hb d_K_feed_30 rfl (lv_at hl 2 rfl) ?_
  have hPc := hP.sub (ws' := [(hb1, .inr (1, [.ref hy, .int (nI k2_2)])), (hy, .inl (cB, 256, .inl ((f2_3))))]) [2, 3] rfl
  have hKc := hK.sub (tys' := [(cB, .byte)]) [0] rfl
  have hDc := hD.sub (ws' := [(hb1, .inr (1, [.ref hy, .int (nI k2_2)])), (hy, .inl (cB, 256, .inl ((f2_3))))]) [2, 3] (by decide) rfl
  have hFc := va_free (wc := [(hb1, .inr (1, [.ref hy, .int (nI k2_2)])), (hy, .inl (cB, 256, .inl ((f2_3))))]) hD hS hA [2, 3] rfl
  refine va_callv (va_runV (As := [.int a2]) (rest := []) ⟨hx, hb, hml, hown, hw0⟩ (c_addInt l dC dI H.size hb1 hy cB k2_2 (f2_3) a2 (by first | assumption | decide | omega)) (cwV 1 hw0 (gd_V 137 138 139 69 140 rfl rfl rfl rfl rfl) rfl rfl rfl (by decide +kernel) ⟨by decide +kernel, by decide +kernel⟩) (prV_E hPc hKc hDc hN (va_recv hKc hPc (ci := 1) (q0 := 0) rfl rfl)) rfl rfl hl.1 rfl (lv_room (Nat.le_of_ble_eq_true rfl)) d_K_feed_31 ⟨by decide +kernel, by decide +kernel⟩) hS (fun q _ h => hFc q h) hFc (fun u t H1 locs ht hvm hw hB hz1 hk1 hS => ?_)
  obtain ⟨k2_5, f2_6, hu_7, hP1, hK1, hD1⟩ := hB
  rw [ht] at hP1
  have hK1 := va_K.moved hvm.symm hK1
  try dsimp only at hw
  obtain ⟨hP, hD⟩ := va_join (wr := [(h0, .inr (0, [v_documents, .ref hb1, v_fetched, v_compared, v_maker, v_writer, .ref hp, .int i_madeDocuments, .int i_fetchedSteps])), (hp, .inr (4, [.int 0, .int p_i_going, .int p_i_writesLeft]))]) (w1 := [(hb1, .inr (1, [.ref hy, .int (nI k2_5)])), (hy, .inl (cB, 256, .inl (f2_6)))]) hP hD [2, 3] [0, 1] rfl rfl (by decide) (by decide) hk1 hFc hP1 hD1
  generalize H1 = H at hP hS ⊢
  replace hP : va_P (dC, dI) vwCl [(h0, .inr (0, [v_documents, .ref hb1, v_fetched, v_compared, v_maker, v_writer, .ref hp, .int i_madeDocuments, .int i_fetchedSteps])), (hp, .inr (4, [.int 0, .int p_i_going, .int p_i_writesLeft])), (hb1, .inr (1, [.ref hy, .int (nI k2_5)])), (hy, .inl (cB, 256, .inl (f2_6)))] H := hP
  replace hD : va_D A [(h0, .inr (0, [v_documents, .ref hb1, v_fetched, v_compared, v_maker, v_writer, .ref hp, .int i_madeDocuments, .int i_fetchedSteps])), (hp, .inr (4, [.int 0, .int p_i_going, .int p_i_writesLeft])), (hb1, .inr (1, [.ref hy, .int (nI k2_5)])), (hy, .inl (cB, 256, .inl (f2_6)))] := hD
  replace hK : va_K (dC, dI) vwCl [(cB, .byte)] s := hK
  refine lv_aload_n hx hb d_K_feed_34 rfl (lv_at hl 0 rfl) ?_
  refine va_get (D := (dC, dI)) (ci := 0) (v := .ref hb1) (C := R_K) (T := F_K) (N := 9) hx hb hw0 in_K hown hK hP 0 rfl rfl 1 (by decide) (hw0 (.fieldLink R_K 18 "TextKeeper" "buffer" "LTextKeeper$Text;") (List.mem_of_getElem? (i := 82) rfl)) (fun _ h9 => h9) rfl d_K_feed_35 ?_
  refine lv_iload_n hx hb d_K_feed_38 rfl (lv_at hl 3 rfl) ?_
  have hPc := hP.sub (ws' := [(hb1, .inr (1, [.ref hy, .int (nI k2_5)])), (hy, .inl (cB, 256, .inl ((f2_6))))]) [2, 3] rfl
  have hKc := hK.sub (tys' := [(cB, .byte)]) [0] rfl
  have hDc := hD.sub (ws' := [(hb1, .inr (1, [.ref hy, .int (nI k2_5)])), (hy, .inl (cB, 256, .inl ((f2_6))))]) [2, 3] (by decide) rfl
  have hFc := va_free (wc := [(hb1, .inr (1, [.ref hy, .int (nI k2_5)])), (hy, .inl (cB, 256, .inl ((f2_6))))]) hD hS hA [2, 3] rfl
  refine va_callv (va_runV (As := [.int a3]) (rest := []) ⟨hx, hb, hml, hown, hw0⟩ (c_addInt l dC dI H.size hb1 hy cB k2_5 (f2_6) a3 (by first | assumption | decide | omega)) (cwV 1 hw0 (gd_V 137 138 139 69 140 rfl rfl rfl rfl rfl) rfl rfl rfl (by decide +kernel) ⟨by decide +kernel, by decide +kernel⟩) (prV_E hPc hKc hDc hN (va_recv hKc hPc (ci := 1) (q0 := 0) rfl rfl)) rfl rfl hl.1 rfl (lv_room (Nat.le_of_ble_eq_true rfl)) d_K_feed_39 ⟨by decide +kernel, by decide +kernel⟩) hS (fun q _ h => hFc q h) hFc (fun u t H1 locs ht hvm hw hB hz1 hk1 hS => ?_)
  obtain ⟨k2_8, f2_9, hu_10, hP1, hK1, hD1⟩ := hB
  rw [ht] at hP1
  have hK1 := va_K.moved hvm.symm hK1
  try dsimp only at hw
  obtain ⟨hP, hD⟩ := va_join (wr := [(h0, .inr (0, [v_documents, .ref hb1, v_fetched, v_compared, v_maker, v_writer, .ref hp, .int i_madeDocuments, .int i_fetchedSteps])), (hp, .inr (4, [.int 0, .int p_i_going, .int p_i_writesLeft]))]) (w1 := [(hb1, .inr (1, [.ref hy, .int (nI k2_8)])), (hy, .inl (cB, 256, .inl (f2_9)))]) hP hD [2, 3] [0, 1] rfl rfl (by decide) (by decide) hk1 hFc hP1 hD1
  generalize H1 = H at hP hS ⊢
  replace hP : va_P (dC, dI) vwCl [(h0, .inr (0, [v_documents, .ref hb1, v_fetched, v_compared, v_maker, v_writer, .ref hp, .int i_madeDocuments, .int i_fetchedSteps])), (hp, .inr (4, [.int 0, .int p_i_going, .int p_i_writesLeft])), (hb1, .inr (1, [.ref hy, .int (nI k2_8)])), (hy, .inl (cB, 256, .inl (f2_9)))] H := hP
  replace hD : va_D A [(h0, .inr (0, [v_documents, .ref hb1, v_fetched, v_compared, v_maker, v_writer, .ref hp, .int i_madeDocuments, .int i_fetchedSteps])), (hp, .inr (4, [.int 0, .int p_i_going, .int p_i_writesLeft])), (hb1, .inr (1, [.ref hy, .int (nI k2_8)])), (hy, .inl (cB, 256, .inl (f2_9)))] := hD
  replace hK : va_K (dC, dI) vwCl [(cB, .byte)] s := hK
  refine lv_aload_n hx hb d_K_feed_42 rfl (lv_at hl 0 rfl) ?_
  refine va_get (D := (dC, dI)) (ci := 0) (v := .ref hb1) (C := R_K) (T := F_K) (N := 9) hx hb hw0 in_K hown hK hP 0 rfl rfl 1 (by decide) (hw0 (.fieldLink R_K 18 "TextKeeper" "buffer" "LTextKeeper$Text;") (List.mem_of_getElem? (i := 82) rfl)) (fun _ h9 => h9) rfl d_K_feed_43 ?_
  refine lv_iload hx hb d_K_feed_46 (lv_at hl 4 rfl) ?_
  have hPc := hP.sub (ws' := [(hb1, .inr (1, [.ref hy, .int (nI k2_8)])), (hy, .inl (cB, 256, .inl ((f2_9))))]) [2, 3] rfl
  have hKc := hK.sub (tys' := [(cB, .byte)]) [0] rfl
  have hDc := hD.sub (ws' := [(hb1, .inr (1, [.ref hy, .int (nI k2_8)])), (hy, .inl (cB, 256, .inl ((f2_9))))]) [2, 3] (by decide) rfl
  have hFc := va_free (wc := [(hb1, .inr (1, [.ref hy, .int (nI k2_8)])), (hy, .inl (cB, 256, .inl ((f2_9))))]) hD hS hA [2, 3] rfl
  refine va_callv (va_runV (As := [.int a4]) (rest := []) ⟨hx, hb, hml, hown, hw0⟩ (c_addInt l dC dI H.size hb1 hy cB k2_8 (f2_9) a4 (by first | assumption | decide | omega)) (cwV 1 hw0 (gd_V 137 138 139 69 140 rfl rfl rfl rfl rfl) rfl rfl rfl (by decide +kernel) ⟨by decide +kernel, by decide +kernel⟩) (prV_E hPc hKc hDc hN (va_recv hKc hPc (ci := 1) (q0 := 0) rfl rfl)) rfl rfl hl.1 rfl (lv_room (Nat.le_of_ble_eq_true rfl)) d_K_feed_48 ⟨by decide +kernel, by decide +kernel⟩) hS (fun q _ h => hFc q h) hFc (fun u t H1 locs ht hvm hw hB hz1 hk1 hS => ?_)
  obtain ⟨k2_11, f2_12, hu_13, hP1, hK1, hD1⟩ := hB
  rw [ht] at hP1
  have hK1 := va_K.moved hvm.symm hK1
  try dsimp only at hw
  obtain ⟨hP, hD⟩ := va_join (wr := [(h0, .inr (0, [v_documents, .ref hb1, v_fetched, v_compared, v_maker, v_writer, .ref hp, .int i_madeDocuments, .int i_fetchedSteps])), (hp, .inr (4, [.int 0, .int p_i_going, .int p_i_writesLeft]))]) (w1 := [(hb1, .inr (1, [.ref hy, .int (nI k2_11)])), (hy, .inl (cB, 256, .inl (f2_12)))]) hP hD [2, 3] [0, 1] rfl rfl (by decide) (by decide) hk1 hFc hP1 hD1
  generalize H1 = H at hP hS ⊢
  replace hP : va_P (dC, dI) vwCl [(h0, .inr (0, [v_documents, .ref hb1, v_fetched, v_compared, v_maker, v_writer, .ref hp, .int i_madeDocuments, .int i_fetchedSteps])), (hp, .inr (4, [.int 0, .int p_i_going, .int p_i_writesLeft])), (hb1, .inr (1, [.ref hy, .int (nI k2_11)])), (hy, .inl (cB, 256, .inl (f2_12)))] H := hP
  replace hD : va_D A [(h0, .inr (0, [v_documents, .ref hb1, v_fetched, v_compared, v_maker, v_writer, .ref hp, .int i_madeDocuments, .int i_fetchedSteps])), (hp, .inr (4, [.int 0, .int p_i_going, .int p_i_writesLeft])), (hb1, .inr (1, [.ref hy, .int (nI k2_11)])), (hy, .inl (cB, 256, .inl (f2_12)))] := hD
  replace hK : va_K (dC, dI) vwCl [(cB, .byte)] s := hK
  refine lv_aload_n hx hb d_K_feed_51 rfl (lv_at hl 0 rfl) ?_
  refine va_get (D := (dC, dI)) (ci := 0) (v := .ref hb1) (C := R_K) (T := F_K) (N := 9) hx hb hw0 in_K hown hK hP 0 rfl rfl 1 (by decide) (hw0 (.fieldLink R_K 18 "TextKeeper" "buffer" "LTextKeeper$Text;") (List.mem_of_getElem? (i := 82) rfl)) (fun _ h9 => h9) rfl d_K_feed_52 ?_
  refine lv_iload hx hb d_K_feed_55 (lv_at hl 5 rfl) ?_
  have hPc := hP.sub (ws' := [(hb1, .inr (1, [.ref hy, .int (nI k2_11)])), (hy, .inl (cB, 256, .inl ((f2_12))))]) [2, 3] rfl
  have hKc := hK.sub (tys' := [(cB, .byte)]) [0] rfl
  have hDc := hD.sub (ws' := [(hb1, .inr (1, [.ref hy, .int (nI k2_11)])), (hy, .inl (cB, 256, .inl ((f2_12))))]) [2, 3] (by decide) rfl
  have hFc := va_free (wc := [(hb1, .inr (1, [.ref hy, .int (nI k2_11)])), (hy, .inl (cB, 256, .inl ((f2_12))))]) hD hS hA [2, 3] rfl
  refine va_callv (va_runV (As := [.int a5]) (rest := []) ⟨hx, hb, hml, hown, hw0⟩ (c_addInt l dC dI H.size hb1 hy cB k2_11 (f2_12) a5 (by first | assumption | decide | omega)) (cwV 1 hw0 (gd_V 137 138 139 69 140 rfl rfl rfl rfl rfl) rfl rfl rfl (by decide +kernel) ⟨by decide +kernel, by decide +kernel⟩) (prV_E hPc hKc hDc hN (va_recv hKc hPc (ci := 1) (q0 := 0) rfl rfl)) rfl rfl hl.1 rfl (lv_room (Nat.le_of_ble_eq_true rfl)) d_K_feed_57 ⟨by decide +kernel, by decide +kernel⟩) hS (fun q _ h => hFc q h) hFc (fun u t H1 locs ht hvm hw hB hz1 hk1 hS => ?_)
  obtain ⟨k2_14, f2_15, hu_16, hP1, hK1, hD1⟩ := hB
  rw [ht] at hP1
  have hK1 := va_K.moved hvm.symm hK1
  try dsimp only at hw
  obtain ⟨hP, hD⟩ := va_join (wr := [(h0, .inr (0, [v_documents, .ref hb1, v_fetched, v_compared, v_maker, v_writer, .ref hp, .int i_madeDocuments, .int i_fetchedSteps])), (hp, .inr (4, [.int 0, .int p_i_going, .int p_i_writesLeft]))]) (w1 := [(hb1, .inr (1, [.ref hy, .int (nI k2_14)])), (hy, .inl (cB, 256, .inl (f2_15)))]) hP hD [2, 3] [0, 1] rfl rfl (by decide) (by decide) hk1 hFc hP1 hD1
  generalize H1 = H at hP hS ⊢
  replace hP : va_P (dC, dI) vwCl [(h0, .inr (0, [v_documents, .ref hb1, v_fetched, v_compared, v_maker, v_writer, .ref hp, .int i_madeDocuments, .int i_fetchedSteps])), (hp, .inr (4, [.int 0, .int p_i_going, .int p_i_writesLeft])), (hb1, .inr (1, [.ref hy, .int (nI k2_14)])), (hy, .inl (cB, 256, .inl (f2_15)))] H := hP
  replace hD : va_D A [(h0, .inr (0, [v_documents, .ref hb1, v_fetched, v_compared, v_maker, v_writer, .ref hp, .int i_madeDocuments, .int i_fetchedSteps])), (hp, .inr (4, [.int 0, .int p_i_going, .int p_i_writesLeft])), (hb1, .inr (1, [.ref hy, .int (nI k2_14)])), (hy, .inl (cB, 256, .inl (f2_15)))] := hD
  replace hK : va_K (dC, dI) vwCl [(cB, .byte)] s := hK
  refine lv_iconst (v := 1) hx hb d_K_feed_60 (by decide) ?_
  have hP9 := hP.sub (ws' := []) [] rfl
  have hD9 := hD.sub (ws' := []) [] (by decide) rfl
  have hK9 := hK.sub (tys' := []) [] rfl
  exact W.zret (v := 1) (ty := .boolean) hx hb hr rfl (fun t ht hW => ⟨⟨1, (), rfl, rfl, by rw [ht]; exact hP9, va_K.moved hW.alike hK9, hD9⟩, hS.F ht⟩) hS.2.2 d_K_feed_61
set_option maxHeartbeats 4000000 in
set_option maxRecDepth 100000 in
theorem c_shorten_T (l : Launch) (dC : Nat → ClassId) (dI : Nat → Nat → Nat) (sz : Nat) (h0 : Nat) (hy : Value) (a1 : Int32) (h1 : ¬ a1 < 0) (h2 : ¬ 0 < a1) : Met l y_T_shorten k_T_shorten ({ frames := 0, cells := 0, slots := 0, locals := 0 } : Room) (va_Pc [.ref h0, .int a1] (pc_E (dC, dI) [(h0, .inr (1, [hy, .int 0]))] [] sz)) (va_Qi (fun (r : Int32) (_ : Unit) => r = 1) (fun (_ : Unit) t => at_E (dC, dI) (va_A [(h0, .inr (1, [hy, .int 0]))] sz) [] [] t) (va_A [(h0, .inr (1, [hy, .int 0]))] sz)) 0 0 (va_A [(h0, .inr (1, [hy, .int 0]))] sz) := by
  refine Met.ofW (cc := prog_7_method_6_code) (maxL := 2) (ret := (some .boolean)) (by decide) rfl ?_
  intro p e s m args below meth c s₁ B hml hv
  obtain ⟨rfl, hsz, hP, hK, hD0, hN⟩ := hv
  have hx := B.exec
  have hb := B.bytes
  have hr := B.returns
  have hts := atoms_spec (ws := k_T_shorten) B.pre
  have hw0 : ∀ w ∈ w0, w.before _ s = true := fun w h => hts w (List.mem_cons_of_mem _ h)
  have hown : s.vm.findClass R_T = some m.cls := findClass_of_methodNamed B.named
  have hlocks := B.notSynchronized
  subst hsz
  have hD := hD0.self (sz := s.heap.size)
  generalize hAe : va_A [(h0, .inr (1, [hy, .int 0]))] s.heap.size = A at hD ⊢
  have hA : ∀ q : Nat, s.heap.size ≤ q → A q := fun q h => by rw [← hAe]; exact Or.inr h
  have hS : va_S A s.heap s.heap [] := va_S.rf
  have hP : va_P (dC, dI) vwCl [(h0, .inr (1, [hy, .int 0]))] s.heap := hP
  have hl := lv_entry ([.ref h0, .int a1]) (n := 2) (Nat.le_of_ble_eq_true rfl)
  rw [lg_entry_eq]
  generalize (lg_sl ([.ref h0, .int a1]) ++ List.replicate (2 - (lg_sl ([.ref h0, .int a1])).length) Slot.unset).toArray = ls at hl ⊢
  have hl : lv_has ls 2 [(0, .ref h0), (1, .int a1)] := hl
  refine lv_iload_n hx hb d_T_shorten_0 rfl (lv_at hl 1 rfl) ?_
  refine lv_if_lt (tgt := 12) hx hb d_T_shorten_1 (by decide) (fun c_1 => absurd c_1 h1) (fun c_1 => ?_)
  refine lv_iload_n hx hb d_T_shorten_4 rfl (lv_at hl 1 rfl) ?_
  refine lv_aload_n hx hb d_T_shorten_5 rfl (lv_at hl 0 rfl) ?_
  refine va_get (D := (dC, dI)) (ci := 1) (v := .int 0) (C := R_T) (T := F_T) (N := 2) hx hb hw0 in_T hown hK hP 0 rfl rfl 1 (by decide) (hw0 (.fieldLink R_T 15 "TextKeeper$Text" "length" "I") (List.mem_of_getElem? (i := 62) rfl)) (fun _ h9 => h9) rfl d_T_shorten_6 ?_
  refine lv_icmp_le (tgt := 14) hx hb d_T_shorten_9 (by decide) (fun c_2 => ?_) (fun c_2 => absurd (Int32.not_lt.mp h2) c_2)
  refine lv_aload_n hx hb d_T_shorten_14 rfl (lv_at hl 0 rfl) ?_
  refine lv_iload_n hx hb d_T_shorten_15 rfl (lv_at hl 1 rfl) ?_
  refine va_put (D := (dC, dI)) (ci := 1) (v := .int a1) (ty := .int) (C := R_T) (T := F_T) (N := 2) hx hb hw0 in_T ft_T tk_T nk_T hown hK hP hD hS 0 rfl rfl 1 (by decide) (hw0 (.fieldLink R_T 15 "TextKeeper$Text" "length" "I") (List.mem_of_getElem? (i := 62) rfl)) (fun _ h9 => h9) rfl (by decide +kernel) rfl rfl (Nat.le_of_ble_eq_true rfl) d_T_shorten_16 (fun H locs hP hD hS => ?_)
  replace hP : va_P (dC, dI) vwCl [(h0, .inr (1, [hy, .int a1]))] H := hP
  replace hD : va_D A [(h0, .inr (1, [hy, .int a1]))] := hD
  refine lv_iconst (v := 1) hx hb d_T_shorten_19 (by decide) ?_
  have hP9 := hP.sub (ws' := []) [] rfl
  have hD9 := hD.sub (ws' := []) [] (by decide) rfl
  have hK9 := hK.sub (tys' := []) [] rfl
  exact W.zret (v := 1) (ty := .boolean) hx hb hr rfl (fun t ht hW => ⟨⟨1, (), rfl, rfl, by rw [ht]; exact hP9, va_K.moved hW.alike hK9, hD9⟩, hS.F ht⟩) hS.2.2 d_T_shorten_20
set_option maxHeartbeats 4000000 in
set_option maxRecDepth 100000 in
theorem c_shorten_F (l : Launch) (dC : Nat → ClassId) (dI : Nat → Nat → Nat) (h0 : Nat) (hy : Value) (a1 : Int32) (h1 : a1 < 0 ∨ 0 < a1) : Met l y_T_shorten k_T_shorten ({ frames := 0, cells := 0, slots := 0, locals := 0 } : Room) (va_Pc [.ref h0, .int a1] (pc_R (dC, dI) [(h0, .inr (1, [hy, .int 0]))] [])) (vp_Si (fun r => r = 0)) 0 0 (fun _ => False) := by
  refine Met.ofW (cc := prog_7_method_6_code) (maxL := 2) (ret := (some .boolean)) (by decide) rfl ?_
  intro p e s m args below meth c s₁ B hml hv
  obtain ⟨rfl, hP, hK, hN⟩ := hv
  have hx := B.exec
  have hb := B.bytes
  have hr := B.returns
  have hts := atoms_spec (ws := k_T_shorten) B.pre
  have hw0 : ∀ w ∈ w0, w.before _ s = true := fun w h => hts w (List.mem_cons_of_mem _ h)
  have hown : s.vm.findClass R_T = some m.cls := findClass_of_methodNamed B.named
  have hlocks := B.notSynchronized
  have hP : va_P (dC, dI) vwCl [(h0, .inr (1, [hy, .int 0]))] s.heap := hP
  have hl := lv_entry ([.ref h0, .int a1]) (n := 2) (Nat.le_of_ble_eq_true rfl)
  rw [lg_entry_eq]
  generalize (lg_sl ([.ref h0, .int a1]) ++ List.replicate (2 - (lg_sl ([.ref h0, .int a1])).length) Slot.unset).toArray = ls at hl ⊢
  have hl : lv_has ls 2 [(0, .ref h0), (1, .int a1)] := hl
  refine lv_iload_n hx hb d_T_shorten_0 rfl (lv_at hl 1 rfl) ?_
  refine lv_if_lt (tgt := 12) hx hb d_T_shorten_1 (by decide) (fun c_1 => ?_) (fun c_1 => ?_)
  · refine lv_iconst (v := 0) hx hb d_T_shorten_12 (by decide) ?_
    exact W.zret (v := 0) (ty := .boolean) hx hb hr rfl (fun t ht hW => ⟨0, rfl, rfl, ht⟩) (fun q h => by cases h) d_T_shorten_13
  · refine lv_iload_n hx hb d_T_shorten_4 rfl (lv_at hl 1 rfl) ?_
    refine lv_aload_n hx hb d_T_shorten_5 rfl (lv_at hl 0 rfl) ?_
    refine va_get (D := (dC, dI)) (ci := 1) (v := .int 0) (C := R_T) (T := F_T) (N := 2) hx hb hw0 in_T hown hK hP 0 rfl rfl 1 (by decide) (hw0 (.fieldLink R_T 15 "TextKeeper$Text" "length" "I") (List.mem_of_getElem? (i := 62) rfl)) (fun _ h9 => h9) rfl d_T_shorten_6 ?_
    refine lv_icmp_le (tgt := 14) hx hb d_T_shorten_9 (by decide) (fun c_2 => absurd c_2 (fun h9 => h1.elim (fun h => c_1 h) (fun h => Int32.not_le.mpr h h9))) (fun c_2 => ?_)
    refine lv_iconst (v := 0) hx hb d_T_shorten_12 (by decide) ?_
    exact W.zret (v := 0) (ty := .boolean) hx hb hr rfl (fun t ht hW => ⟨0, rfl, rfl, ht⟩) (fun q h => by cases h) d_T_shorten_13
set_option maxHeartbeats 4000000 in
set_option maxRecDepth 100000 in
theorem c_end_T (l : Launch) (dC : Nat → ClassId) (dI : Nat → Nat → Nat) (sz : Nat) (h0 : Nat) (v_documents : Value) (v_fetched : Value) (v_compared : Value) (v_maker : Value) (v_writer : Value) (i_madeDocuments : Int32) (i_fetchedSteps : Int32) (hp : Nat) (p_i_going : Int32) (p_i_writesLeft : Int32) (hb1 : Nat) (hy : Value) (a1 : Int32) (h1 : ¬ a1 < 0) (h2 : ¬ 0 < a1) : Met l y_K_end k_K_end ({ frames := 1, cells := 0, slots := 0, locals := 21 } : Room) (va_Pc [.ref h0, .int a1] (pc_E (dC, dI) [(h0, .inr (0, [v_documents, .ref hb1, v_fetched, v_compared, v_maker, v_writer, .ref hp, .int i_madeDocuments, .int i_fetchedSteps])), (hp, .inr (4, [.int 0, .int p_i_going, .int p_i_writesLeft])), (hb1, .inr (1, [hy, .int 0]))] [] sz)) (va_Qi (fun (r : Int32) (_ : Unit) => r = 1) (fun (_ : Unit) t => at_E (dC, dI) (va_A [(h0, .inr (0, [v_documents, .ref hb1, v_fetched, v_compared, v_maker, v_writer, .ref hp, .int i_madeDocuments, .int i_fetchedSteps])), (hp, .inr (4, [.int 0, .int p_i_going, .int p_i_writesLeft])), (hb1, .inr (1, [hy, .int 0]))] sz) [] [] t) (va_A [(h0, .inr (0, [v_documents, .ref hb1, v_fetched, v_compared, v_maker, v_writer, .ref hp, .int i_madeDocuments, .int i_fetchedSteps])), (hp, .inr (4, [.int 0, .int p_i_going, .int p_i_writesLeft])), (hb1, .inr (1, [hy, .int 0]))] sz)) 0 0 (va_A [(h0, .inr (0, [v_documents, .ref hb1, v_fetched, v_compared, v_maker, v_writer, .ref hp, .int i_madeDocuments, .int i_fetchedSteps])), (hp, .inr (4, [.int 0, .int p_i_going, .int p_i_writesLeft])), (hb1, .inr (1, [hy, .int 0]))] sz) := by
  refine Met.ofW (cc := prog_1_method_3_code) (maxL := 2) (ret := (some .boolean)) (by decide) rfl ?_
  intro p e s m args below meth c s₁ B hml hv
  obtain ⟨rfl, hsz, hP, hK, hD0, hN⟩ := hv
  have hx := B.exec
  have hb := B.bytes
  have hr := B.returns
  have hts := atoms_spec (ws := k_K_end) B.pre
  have hw0 : ∀ w ∈ w0, w.before _ s = true := fun w h => hts w (List.mem_cons_of_mem _ h)
  have hown : s.vm.findClass R_K = some m.cls := findClass_of_methodNamed B.named
  have hlocks := B.notSynchronized
  subst hsz
  have hD := hD0.self (sz := s.heap.size)
  generalize hAe : va_A [(h0, .inr (0, [v_documents, .ref hb1, v_fetched, v_compared, v_maker, v_writer, .ref hp, .int i_madeDocuments, .int i_fetchedSteps])), (hp, .inr (4, [.int 0, .int p_i_going, .int p_i_writesLeft])), (hb1, .inr (1, [hy, .int 0]))] s.heap.size = A at hD ⊢
  have hA : ∀ q : Nat, s.heap.size ≤ q → A q := fun q h => by rw [← hAe]; exact Or.inr h
  have hS : va_S A s.heap s.heap [] := va_S.rf
  have hP : va_P (dC, dI) vwCl [(h0, .inr (0, [v_documents, .ref hb1, v_fetched, v_compared, v_maker, v_writer, .ref hp, .int i_madeDocuments, .int i_fetchedSteps])), (hp, .inr (4, [.int 0, .int p_i_going, .int p_i_writesLeft])), (hb1, .inr (1, [hy, .int 0]))] s.heap := hP
  have hl := lv_entry ([.ref h0, .int a1]) (n := 2) (Nat.le_of_ble_eq_true rfl)
  rw [lg_entry_eq]
  generalize (lg_sl ([.ref h0, .int a1]) ++ List.replicate (2 - (lg_sl ([.ref h0, .int a1])).length) Slot.unset).toArray = ls at hl ⊢
  have hl : lv_has ls 2 [(0, .ref h0), (1, .int a1)] := hl
  refine lv_aload_n hx hb d_K_end_0 rfl (lv_at hl 0 rfl) ?_
  have hPc := hP.sub (ws' := [(h0, .inr (0, [v_documents, .ref hb1, v_fetched, v_compared, v_maker, v_writer, .ref hp, .int i_madeDocuments, .int i_fetchedSteps])), (hp, .inr (4, [.int 0, .int p_i_going, .int p_i_writesLeft]))]) [0, 1] rfl
  have hKc := hK.sub (tys' := []) [] rfl
  refine ps_v (va_runV (As := []) (rest := []) ⟨hx, hb, hml, hown, hw0⟩ (c_needPower l dC dI h0 v_documents (.ref hb1) v_fetched v_compared v_maker v_writer i_madeDocuments i_fetchedSteps hp p_i_going p_i_writesLeft) (cwV 0 hw0 (gd_V 113 114 115 111 116 rfl rfl rfl rfl rfl) rfl rfl rfl (by decide +kernel) ⟨by decide +kernel, by decide +kernel⟩) (prV_R hPc hKc hN (va_recv hKc hPc (ci := 0) (q0 := 0) rfl rfl)) rfl rfl hl.1 rfl (lv_room (Nat.le_of_ble_eq_true rfl)) d_K_end_1 ⟨by decide +kernel, by decide +kernel⟩) ?_
  refine lv_aload_n hx hb d_K_end_4 rfl (lv_at hl 0 rfl) ?_
  refine va_get (D := (dC, dI)) (ci := 0) (v := .ref hb1) (C := R_K) (T := F_K) (N := 9) hx hb hw0 in_K hown hK hP 0 rfl rfl 1 (by decide) (hw0 (.fieldLink R_K 18 "TextKeeper" "buffer" "LTextKeeper$Text;") (List.mem_of_getElem? (i := 82) rfl)) (fun _ h9 => h9) rfl d_K_end_5 ?_
  refine lv_iload_n hx hb d_K_end_8 rfl (lv_at hl 1 rfl) ?_
  have hPc := hP.sub (ws' := [(hb1, .inr (1, [hy, .int 0]))]) [2] rfl
  have hKc := hK.sub (tys' := []) [] rfl
  have hDc := hD.sub (ws' := [(hb1, .inr (1, [hy, .int 0]))]) [2] (by decide) rfl
  have hFc := va_free (wc := [(hb1, .inr (1, [hy, .int 0]))]) hD hS hA [2] rfl
  refine va_calli (va_runV (As := [.int a1]) (rest := []) ⟨hx, hb, hml, hown, hw0⟩ (c_shorten_T l dC dI s.heap.size hb1 hy a1 (by first | assumption | decide | omega) (by first | assumption | decide | omega)) (cwV 1 hw0 (gd_V 141 142 143 69 144 rfl rfl rfl rfl rfl) rfl rfl rfl (by decide +kernel) ⟨by decide +kernel, by decide +kernel⟩) (prV_E hPc hKc hDc hN (va_recv hKc hPc (ci := 1) (q0 := 0) rfl rfl)) rfl rfl hl.1 rfl (lv_room (Nat.le_of_ble_eq_true rfl)) d_K_end_9 ⟨by decide +kernel, by decide +kernel⟩) hS (fun q _ h => hFc q h) hFc (fun r_1 u t H1 locs ht hvm hw hB hz1 hk1 hS => ?_)
  obtain ⟨hP1, hK1, hD1⟩ := hB
  rw [ht] at hP1
  have hK1 := va_K.moved hvm.symm hK1
  try dsimp only at hw
  obtain ⟨hP, hD⟩ := va_join (wr := [(h0, .inr (0, [v_documents, .ref hb1, v_fetched, v_compared, v_maker, v_writer, .ref hp, .int i_madeDocuments, .int i_fetchedSteps])), (hp, .inr (4, [.int 0, .int p_i_going, .int p_i_writesLeft]))]) (w1 := []) hP hD [2] [0, 1] rfl rfl (by decide) (by decide) hk1 hFc hP1 hD1
  generalize H1 = H at hP hS ⊢
  replace hP : va_P (dC, dI) vwCl [(h0, .inr (0, [v_documents, .ref hb1, v_fetched, v_compared, v_maker, v_writer, .ref hp, .int i_madeDocuments, .int i_fetchedSteps])), (hp, .inr (4, [.int 0, .int p_i_going, .int p_i_writesLeft]))] H := hP
  replace hD : va_D A [(h0, .inr (0, [v_documents, .ref hb1, v_fetched, v_compared, v_maker, v_writer, .ref hp, .int i_madeDocuments, .int i_fetchedSteps])), (hp, .inr (4, [.int 0, .int p_i_going, .int p_i_writesLeft]))] := hD
  replace hK : va_K (dC, dI) vwCl [] s := hK
  obtain rfl : r_1 = 1 := hw
  have hP9 := hP.sub (ws' := []) [] rfl
  have hD9 := hD.sub (ws' := []) [] (by decide) rfl
  have hK9 := hK.sub (tys' := []) [] rfl
  exact W.zret (v := 1) (ty := .boolean) hx hb hr rfl (fun t ht hW => ⟨⟨1, (), rfl, rfl, by rw [ht]; exact hP9, va_K.moved hW.alike hK9, hD9⟩, hS.F ht⟩) hS.2.2 d_K_end_12
set_option maxHeartbeats 4000000 in
set_option maxRecDepth 100000 in
theorem c_end_F (l : Launch) (dC : Nat → ClassId) (dI : Nat → Nat → Nat) (h0 : Nat) (v_documents : Value) (v_fetched : Value) (v_compared : Value) (v_maker : Value) (v_writer : Value) (i_madeDocuments : Int32) (i_fetchedSteps : Int32) (hp : Nat) (p_i_going : Int32) (p_i_writesLeft : Int32) (hb1 : Nat) (hy : Value) (a1 : Int32) (h1 : a1 < 0 ∨ 0 < a1) : Met l y_K_end k_K_end ({ frames := 1, cells := 0, slots := 0, locals := 21 } : Room) (va_Pc [.ref h0, .int a1] (pc_R (dC, dI) [(h0, .inr (0, [v_documents, .ref hb1, v_fetched, v_compared, v_maker, v_writer, .ref hp, .int i_madeDocuments, .int i_fetchedSteps])), (hp, .inr (4, [.int 0, .int p_i_going, .int p_i_writesLeft])), (hb1, .inr (1, [hy, .int 0]))] [])) (vp_Si (fun r => r = 0)) 0 0 (fun _ => False) := by
  refine Met.ofW (cc := prog_1_method_3_code) (maxL := 2) (ret := (some .boolean)) (by decide) rfl ?_
  intro p e s m args below meth c s₁ B hml hv
  obtain ⟨rfl, hP, hK, hN⟩ := hv
  have hx := B.exec
  have hb := B.bytes
  have hr := B.returns
  have hts := atoms_spec (ws := k_K_end) B.pre
  have hw0 : ∀ w ∈ w0, w.before _ s = true := fun w h => hts w (List.mem_cons_of_mem _ h)
  have hown : s.vm.findClass R_K = some m.cls := findClass_of_methodNamed B.named
  have hlocks := B.notSynchronized
  have hP : va_P (dC, dI) vwCl [(h0, .inr (0, [v_documents, .ref hb1, v_fetched, v_compared, v_maker, v_writer, .ref hp, .int i_madeDocuments, .int i_fetchedSteps])), (hp, .inr (4, [.int 0, .int p_i_going, .int p_i_writesLeft])), (hb1, .inr (1, [hy, .int 0]))] s.heap := hP
  have hl := lv_entry ([.ref h0, .int a1]) (n := 2) (Nat.le_of_ble_eq_true rfl)
  rw [lg_entry_eq]
  generalize (lg_sl ([.ref h0, .int a1]) ++ List.replicate (2 - (lg_sl ([.ref h0, .int a1])).length) Slot.unset).toArray = ls at hl ⊢
  have hl : lv_has ls 2 [(0, .ref h0), (1, .int a1)] := hl
  refine lv_aload_n hx hb d_K_end_0 rfl (lv_at hl 0 rfl) ?_
  have hPc := hP.sub (ws' := [(h0, .inr (0, [v_documents, .ref hb1, v_fetched, v_compared, v_maker, v_writer, .ref hp, .int i_madeDocuments, .int i_fetchedSteps])), (hp, .inr (4, [.int 0, .int p_i_going, .int p_i_writesLeft]))]) [0, 1] rfl
  have hKc := hK.sub (tys' := []) [] rfl
  refine ps_v (va_runV (As := []) (rest := []) ⟨hx, hb, hml, hown, hw0⟩ (c_needPower l dC dI h0 v_documents (.ref hb1) v_fetched v_compared v_maker v_writer i_madeDocuments i_fetchedSteps hp p_i_going p_i_writesLeft) (cwV 0 hw0 (gd_V 113 114 115 111 116 rfl rfl rfl rfl rfl) rfl rfl rfl (by decide +kernel) ⟨by decide +kernel, by decide +kernel⟩) (prV_R hPc hKc hN (va_recv hKc hPc (ci := 0) (q0 := 0) rfl rfl)) rfl rfl hl.1 rfl (lv_room (Nat.le_of_ble_eq_true rfl)) d_K_end_1 ⟨by decide +kernel, by decide +kernel⟩) ?_
  refine lv_aload_n hx hb d_K_end_4 rfl (lv_at hl 0 rfl) ?_
  refine va_get (D := (dC, dI)) (ci := 0) (v := .ref hb1) (C := R_K) (T := F_K) (N := 9) hx hb hw0 in_K hown hK hP 0 rfl rfl 1 (by decide) (hw0 (.fieldLink R_K 18 "TextKeeper" "buffer" "LTextKeeper$Text;") (List.mem_of_getElem? (i := 82) rfl)) (fun _ h9 => h9) rfl d_K_end_5 ?_
  refine lv_iload_n hx hb d_K_end_8 rfl (lv_at hl 1 rfl) ?_
  have hPc := hP.sub (ws' := [(hb1, .inr (1, [hy, .int 0]))]) [2] rfl
  have hKc := hK.sub (tys' := []) [] rfl
  refine ps_i (va_runV (As := [.int a1]) (rest := []) ⟨hx, hb, hml, hown, hw0⟩ (c_shorten_F l dC dI hb1 hy a1 (by first | assumption | decide | omega)) (cwV 1 hw0 (gd_V 141 142 143 69 144 rfl rfl rfl rfl rfl) rfl rfl rfl (by decide +kernel) ⟨by decide +kernel, by decide +kernel⟩) (prV_R hPc hKc hN (va_recv hKc hPc (ci := 1) (q0 := 0) rfl rfl)) rfl rfl hl.1 rfl (lv_room (Nat.le_of_ble_eq_true rfl)) d_K_end_9 ⟨by decide +kernel, by decide +kernel⟩) (fun r_1 hr_1 => ?_)
  obtain rfl : r_1 = 0 := hr_1
  exact W.zret (v := 0) (ty := .boolean) hx hb hr rfl (fun t ht hW => ⟨0, rfl, rfl, ht⟩) (fun q h => by cases h) d_K_end_12
set_option maxHeartbeats 4000000 in
set_option maxRecDepth 100000 in
theorem c_lastsFor (l : Launch) (dC : Nat → ClassId) (dI : Nat → Nat → Nat) (h0 : Nat) (i_down : Int32) (i_writesLeft : Int32) (a1 : Int32)  : Met l y_P_lastsFor k_P_lastsFor ({ frames := 0, cells := 0, slots := 0, locals := 0 } : Room) (va_Pc [.ref h0, .int a1] (pc_R (dC, dI) [(h0, .inr (4, [.int i_down, .int 0, .int i_writesLeft]))] [])) (vp_Si (fun r => r = 1)) 0 0 (fun _ => False) := by
  refine Met.ofW (cc := prog_5_method_4_code) (maxL := 2) (ret := (some .boolean)) (by decide) rfl ?_
  intro p e s m args below meth c s₁ B hml hv
  obtain ⟨rfl, hP, hK, hN⟩ := hv
  have hx := B.exec
  have hb := B.bytes
  have hr := B.returns
  have hts := atoms_spec (ws := k_P_lastsFor) B.pre
  have hw0 : ∀ w ∈ w0, w.before _ s = true := fun w h => hts w (List.mem_cons_of_mem _ h)
  have hown : s.vm.findClass R_P = some m.cls := findClass_of_methodNamed B.named
  have hlocks := B.notSynchronized
  have hP : va_P (dC, dI) vwCl [(h0, .inr (4, [.int i_down, .int 0, .int i_writesLeft]))] s.heap := hP
  have hl := lv_entry ([.ref h0, .int a1]) (n := 2) (Nat.le_of_ble_eq_true rfl)
  rw [lg_entry_eq]
  generalize (lg_sl ([.ref h0, .int a1]) ++ List.replicate (2 - (lg_sl ([.ref h0, .int a1])).length) Slot.unset).toArray = ls at hl ⊢
  have hl : lv_has ls 2 [(0, .ref h0), (1, .int a1)] := hl
  refine lv_aload_n hx hb d_P_lastsFor_0 rfl (lv_at hl 0 rfl) ?_
  refine va_get (D := (dC, dI)) (ci := 4) (v := .int 0) (C := R_P) (T := F_P) (N := 3) hx hb hw0 in_P hown hK hP 0 rfl rfl 1 (by decide) (hw0 (.fieldLink R_P 13 "TextKeeper$Power" "going" "Z") (List.mem_of_getElem? (i := 57) rfl)) (fun _ h9 => h9) rfl d_P_lastsFor_1 ?_
  refine lv_if_ne (tgt := 9) hx hb d_P_lastsFor_4 (by decide) (fun h9 => absurd h9 (by decide +kernel)) (fun _ => ?_)
  refine lv_iconst (v := 1) hx hb d_P_lastsFor_7 (by decide) ?_
  exact W.zret (v := 1) (ty := .boolean) hx hb hr rfl (fun t ht hW => ⟨1, rfl, rfl, ht⟩) (fun q h => by cases h) d_P_lastsFor_8
set_option maxHeartbeats 4000000 in
set_option maxRecDepth 100000 in
theorem c_spendWrites (l : Launch) (dC : Nat → ClassId) (dI : Nat → Nat → Nat) (h0 : Nat) (v_documents : Value) (v_buffer : Value) (v_fetched : Value) (v_compared : Value) (v_maker : Value) (v_writer : Value) (i_madeDocuments : Int32) (i_fetchedSteps : Int32) (hp : Nat) (p_i_down : Int32) (p_i_writesLeft : Int32) (a1 : Int32)  : Met l y_K_spendWrites k_K_spendWrites ({ frames := 1, cells := 0, slots := 0, locals := 21 } : Room) (va_Pc [.ref h0, .int a1] (pc_R (dC, dI) [(h0, .inr (0, [v_documents, v_buffer, v_fetched, v_compared, v_maker, v_writer, .ref hp, .int i_madeDocuments, .int i_fetchedSteps])), (hp, .inr (4, [.int p_i_down, .int 0, .int p_i_writesLeft]))] [])) (va_Sv (fun _ => True)) 0 0 (fun _ => False) := by
  refine Met.ofW (cc := prog_1_method_22_code) (maxL := 2) (ret := none) (by decide) rfl ?_
  intro p e s m args below meth c s₁ B hml hv
  obtain ⟨rfl, hP, hK, hN⟩ := hv
  have hx := B.exec
  have hb := B.bytes
  have hr := B.returns
  have hts := atoms_spec (ws := k_K_spendWrites) B.pre
  have hw0 : ∀ w ∈ w0, w.before _ s = true := fun w h => hts w (List.mem_cons_of_mem _ h)
  have hown : s.vm.findClass R_K = some m.cls := findClass_of_methodNamed B.named
  have hlocks := B.notSynchronized
  have hP : va_P (dC, dI) vwCl [(h0, .inr (0, [v_documents, v_buffer, v_fetched, v_compared, v_maker, v_writer, .ref hp, .int i_madeDocuments, .int i_fetchedSteps])), (hp, .inr (4, [.int p_i_down, .int 0, .int p_i_writesLeft]))] s.heap := hP
  have hl := lv_entry ([.ref h0, .int a1]) (n := 2) (Nat.le_of_ble_eq_true rfl)
  rw [lg_entry_eq]
  generalize (lg_sl ([.ref h0, .int a1]) ++ List.replicate (2 - (lg_sl ([.ref h0, .int a1])).length) Slot.unset).toArray = ls at hl ⊢
  have hl : lv_has ls 2 [(0, .ref h0), (1, .int a1)] := hl
  refine lv_aload_n hx hb d_K_spendWrites_0 rfl (lv_at hl 0 rfl) ?_
  refine va_get (D := (dC, dI)) (ci := 0) (v := .ref hp) (C := R_K) (T := F_K) (N := 9) hx hb hw0 in_K hown hK hP 0 rfl rfl 6 (by decide) (hw0 (.fieldLink R_K 45 "TextKeeper" "power" "LTextKeeper$Power;") (List.mem_of_getElem? (i := 105) rfl)) (fun _ h9 => h9) rfl d_K_spendWrites_1 ?_
  refine lv_iload_n hx hb d_K_spendWrites_4 rfl (lv_at hl 1 rfl) ?_
  have hPc := hP.sub (ws' := [(hp, .inr (4, [.int p_i_down, .int 0, .int p_i_writesLeft]))]) [1] rfl
  have hKc := hK.sub (tys' := []) [] rfl
  refine ps_i (va_runV (As := [.int a1]) (rest := []) ⟨hx, hb, hml, hown, hw0⟩ (c_lastsFor l dC dI hp p_i_down p_i_writesLeft a1) (cwV 1 hw0 (gd_V 145 146 147 101 148 rfl rfl rfl rfl rfl) rfl rfl rfl (by decide +kernel) ⟨by decide +kernel, by decide +kernel⟩) (prV_R hPc hKc hN (va_recv hKc hPc (ci := 4) (q0 := 0) rfl rfl)) rfl rfl hl.1 rfl (lv_room (Nat.le_of_ble_eq_true rfl)) d_K_spendWrites_5 ⟨by decide +kernel, by decide +kernel⟩) (fun r_1 hr_1 => ?_)
  obtain rfl : r_1 = 1 := hr_1
  refine lv_if_ne (tgt := 28) hx hb d_K_spendWrites_8 (by decide) (fun _ => ?_) (fun h9 => absurd h9 (by decide +kernel))
  exact W.vret hx hb hr (fun t ht hW => ⟨rfl, trivial, ht⟩) (fun q h => by cases h) d_K_spendWrites_28
set_option maxHeartbeats 4000000 in
set_option maxRecDepth 100000 in
theorem c_Document_init (l : Launch) (dC : Nat → ClassId) (dI : Nat → Nat → Nat) (sz : Nat) (h0 : Nat)  : Met l y_D_init k_D_init ({ frames := 1, cells := 1, slots := 64, locals := 12 } : Room) (va_Pc [.ref h0] (pc_E (dC, dI) [(h0, .inr (5, [.null, .int 0, .int 0]))] [] sz)) (va_Qv (fun (_ : Unit) => True) (fun (_ : Unit) t => ∃ (q1 : Nat), at_E (dC, dI) (va_A [(h0, .inr (5, [.null, .int 0, .int 0]))] sz) [(h0, .inr (5, [.ref q1, .int 0, .int 0]))] [] t) (va_A [(h0, .inr (5, [.null, .int 0, .int 0]))] sz)) 1 64 (va_A [(h0, .inr (5, [.null, .int 0, .int 0]))] sz) := by
  refine Met.ofW (cc := prog_2_method_1_code) (maxL := 1) (ret := none) (by decide) rfl ?_
  intro p e s m args below meth c s₁ B hml hv
  obtain ⟨rfl, hsz, hP, hK, hD0, hN⟩ := hv
  have hx := B.exec
  have hb := B.bytes
  have hr := B.returns
  have hts := atoms_spec (ws := k_D_init) B.pre
  have hw0 : ∀ w ∈ w0, w.before _ s = true := fun w h => hts w (List.mem_cons_of_mem _ h)
  have hown : s.vm.findClass R_D = some m.cls := findClass_of_methodNamed B.named
  have hlocks := B.notSynchronized
  have hin : meth.name = "<init>" := (name_of_methodNamed B.named B.method).1
  subst hsz
  have hD := hD0.self (sz := s.heap.size)
  generalize hAe : va_A [(h0, .inr (5, [.null, .int 0, .int 0]))] s.heap.size = A at hD ⊢
  have hA : ∀ q : Nat, s.heap.size ≤ q → A q := fun q h => by rw [← hAe]; exact Or.inr h
  have hS : va_S A s.heap s.heap [] := va_S.rf
  have hP : va_P (dC, dI) vwCl [(h0, .inr (5, [.null, .int 0, .int 0]))] s.heap := hP
  have hl := lv_entry ([.ref h0]) (n := 1) (Nat.le_of_ble_eq_true rfl)
  rw [lg_entry_eq]
  generalize (lg_sl ([.ref h0]) ++ List.replicate (1 - (lg_sl ([.ref h0])).length) Slot.unset).toArray = ls at hl ⊢
  have hl : lv_has ls 1 [(0, .ref h0)] := hl
  refine lv_aload_n hx hb d_D_init_0 rfl (lv_at hl 0 rfl) ?_
  refine W.objInit hx hb hown (hw0 (.methodLink R_D 3 objectInit) (List.mem_of_getElem? (i := 149) rfl)) (hw0 (.instanceMethod objectInit) (List.mem_of_getElem? (i := 54) rfl)) (hw0 (.code objectInit ⟨#[0xb1]⟩ 1 none) (List.mem_of_getElem? (i := 55) rfl)) rfl (by rw [hml]; exact hl.1) rfl d_D_init_1 (Nat.le_of_ble_eq_true rfl) (Nat.le_of_ble_eq_true rfl) ?_
  refine W.eq (g2 := F0 m 4 ls []) rfl ?_
  refine lv_aload_n hx hb d_D_init_4 rfl (lv_at hl 0 rfl) ?_
  refine lv_bipush (v := 64) hx hb d_D_init_5 (by decide +kernel) ?_
  refine va_newq (N' := 64) hx hb hown (hw0 (.classLink R_D 9 R_V) (List.mem_of_getElem? (i := 150) rfl)) (hN.2 _ (List.mem_of_getElem? (i := 1) rfl)) hK hP hD hS hA (by decide +kernel) (by decide +kernel) (by decide +kernel) (by decide +kernel) (by decide +kernel) d_D_init_7 (fun q_1 cA_2 H hK hP hD hS => ?_)
  replace hK : va_K (dC, dI) vwCl [(cA_2, .object R_V)] s := hK
  replace hP : va_P (dC, dI) vwCl [(h0, .inr (5, [.null, .int 0, .int 0])), (q_1, .inl (cA_2, 64, .inr (.inr (.inr (.inr (fun _ => none))))))] H := hP
  replace hD : va_D A [(h0, .inr (5, [.null, .int 0, .int 0])), (q_1, .inl (cA_2, 64, .inr (.inr (.inr (.inr (fun _ => none))))))] := hD
  refine W.widen (k := 1) (n := 64) (by decide +kernel) (by decide +kernel) ?_
  refine va_putF (D := (dC, dI)) (ci := 5) (v := .ref q_1) (ty := (.array (.object "TextKeeper$Revision"))) (C := R_D) (T := F_D) (N := 3) hx hb hw0 in_D ft_D tk_D nk_D hown hK hP hD hS 0 rfl rfl 0 (by decide) (hw0 (.fieldLink R_D 11 "TextKeeper$Document" "revisions" "[LTextKeeper$Revision;") (List.mem_of_getElem? (i := 151) rfl)) (fun _ h9 => h9) rfl hin rfl (by decide +kernel) rfl rfl (Nat.le_of_ble_eq_true rfl) d_D_init_10 (fun H locs hP hD hS => ?_)
  replace hP : va_P (dC, dI) vwCl [(h0, .inr (5, [.ref q_1, .int 0, .int 0])), (q_1, .inl (cA_2, 64, .inr (.inr (.inr (.inr (fun _ => none))))))] H := hP
  replace hD : va_D A [(h0, .inr (5, [.ref q_1, .int 0, .int 0])), (q_1, .inl (cA_2, 64, .inr (.inr (.inr (.inr (fun _ => none))))))] := hD
  refine lv_aload_n hx hb d_D_init_13 rfl (lv_at hl 0 rfl) ?_
  refine lv_iconst (v := 0) hx hb d_D_init_14 (by decide) ?_
  refine va_put (D := (dC, dI)) (ci := 5) (v := .int 0) (ty := .int) (C := R_D) (T := F_D) (N := 3) hx hb hw0 in_D ft_D tk_D nk_D hown hK hP hD hS 0 rfl rfl 1 (by decide) (hw0 (.fieldLink R_D 17 "TextKeeper$Document" "first" "I") (List.mem_of_getElem? (i := 152) rfl)) (fun _ h9 => h9) rfl (by decide +kernel) rfl rfl (Nat.le_of_ble_eq_true rfl) d_D_init_15 (fun H locs hP hD hS => ?_)
  replace hP : va_P (dC, dI) vwCl [(h0, .inr (5, [.ref q_1, .int 0, .int 0])), (q_1, .inl (cA_2, 64, .inr (.inr (.inr (.inr (fun _ => none))))))] H := hP
  replace hD : va_D A [(h0, .inr (5, [.ref q_1, .int 0, .int 0])), (q_1, .inl (cA_2, 64, .inr (.inr (.inr (.inr (fun _ => none))))))] := hD
  refine lv_aload_n hx hb d_D_init_18 rfl (lv_at hl 0 rfl) ?_
  refine lv_iconst (v := 0) hx hb d_D_init_19 (by decide) ?_
  refine va_put (D := (dC, dI)) (ci := 5) (v := .int 0) (ty := .int) (C := R_D) (T := F_D) (N := 3) hx hb hw0 in_D ft_D tk_D nk_D hown hK hP hD hS 0 rfl rfl 2 (by decide) (hw0 (.fieldLink R_D 21 "TextKeeper$Document" "count" "I") (List.mem_of_getElem? (i := 153) rfl)) (fun _ h9 => h9) rfl (by decide +kernel) rfl rfl (Nat.le_of_ble_eq_true rfl) d_D_init_20 (fun H locs hP hD hS => ?_)
  replace hP : va_P (dC, dI) vwCl [(h0, .inr (5, [.ref q_1, .int 0, .int 0])), (q_1, .inl (cA_2, 64, .inr (.inr (.inr (.inr (fun _ => none))))))] H := hP
  replace hD : va_D A [(h0, .inr (5, [.ref q_1, .int 0, .int 0])), (q_1, .inl (cA_2, 64, .inr (.inr (.inr (.inr (fun _ => none))))))] := hD
  have hP9 := hP.sub (ws' := [(h0, .inr (5, [.ref q_1, .int 0, .int 0]))]) [0] rfl
  have hD9 := hD.sub (ws' := [(h0, .inr (5, [.ref q_1, .int 0, .int 0]))]) [0] (by decide) rfl
  have hK9 := hK.sub (tys' := []) [] rfl
  exact W.vret hx hb hr (fun t ht hW => ⟨⟨(), rfl, trivial, q_1, by rw [ht]; exact hP9, va_K.moved hW.alike hK9, hD9⟩, hS.F ht⟩) hS.2.2 d_D_init_23
set_option maxHeartbeats 4000000 in
set_option maxRecDepth 100000 in
theorem c_make (l : Launch) (dC : Nat → ClassId) (dI : Nat → Nat → Nat) (sz : Nat) (h0 : Nat) (v_buffer : Value) (v_fetched : Value) (v_compared : Value) (v_maker : Value) (v_writer : Value) (i_fetchedSteps : Int32) (hp : Nat) (p_i_writesLeft : Int32) (hd : Nat) (cD : ClassId)  : Met l y_K_make k_K_make ({ frames := 2, cells := 2, slots := 67, locals := 42 } : Room) (va_Pc [.ref h0] (pc_E (dC, dI) [(h0, .inr (0, [.ref hd, v_buffer, v_fetched, v_compared, v_maker, v_writer, .ref hp, .int 0, .int i_fetchedSteps])), (hp, .inr (4, [.int 0, .int 0, .int p_i_writesLeft])), (hd, .inl (cD, 8, .inr (.inr (.inr (.inr (fun _ => none))))))] [(cD, .object R_D)] sz)) (va_Qi (fun (r : Int32) (_ : Unit) => r = 0) (fun (_ : Unit) t => at_E (dC, dI) (va_A [(h0, .inr (0, [.ref hd, v_buffer, v_fetched, v_compared, v_maker, v_writer, .ref hp, .int 0, .int i_fetchedSteps])), (hp, .inr (4, [.int 0, .int 0, .int p_i_writesLeft])), (hd, .inl (cD, 8, .inr (.inr (.inr (.inr (fun _ => none))))))] sz) [] [] t) (va_A [(h0, .inr (0, [.ref hd, v_buffer, v_fetched, v_compared, v_maker, v_writer, .ref hp, .int 0, .int i_fetchedSteps])), (hp, .inr (4, [.int 0, .int 0, .int p_i_writesLeft])), (hd, .inl (cD, 8, .inr (.inr (.inr (.inr (fun _ => none))))))] sz)) 2 67 (va_A [(h0, .inr (0, [.ref hd, v_buffer, v_fetched, v_compared, v_maker, v_writer, .ref hp, .int 0, .int i_fetchedSteps])), (hp, .inr (4, [.int 0, .int 0, .int p_i_writesLeft])), (hd, .inl (cD, 8, .inr (.inr (.inr (.inr (fun _ => none))))))] sz) := by
  refine Met.ofW (cc := prog_1_method_4_code) (maxL := 2) (ret := (some .int)) (by decide) rfl ?_
  intro p e s m args below meth c s₁ B hml hv
  obtain ⟨rfl, hsz, hP, hK, hD0, hN⟩ := hv
  have hx := B.exec
  have hb := B.bytes
  have hr := B.returns
  have hts := atoms_spec (ws := k_K_make) B.pre
  have hw0 : ∀ w ∈ w0, w.before _ s = true := fun w h => hts w (List.mem_cons_of_mem _ h)
  have hown : s.vm.findClass R_K = some m.cls := findClass_of_methodNamed B.named
  have hlocks := B.notSynchronized
  subst hsz
  have hD := hD0.self (sz := s.heap.size)
  generalize hAe : va_A [(h0, .inr (0, [.ref hd, v_buffer, v_fetched, v_compared, v_maker, v_writer, .ref hp, .int 0, .int i_fetchedSteps])), (hp, .inr (4, [.int 0, .int 0, .int p_i_writesLeft])), (hd, .inl (cD, 8, .inr (.inr (.inr (.inr (fun _ => none))))))] s.heap.size = A at hD ⊢
  have hA : ∀ q : Nat, s.heap.size ≤ q → A q := fun q h => by rw [← hAe]; exact Or.inr h
  have hS : va_S A s.heap s.heap [] := va_S.rf
  have hP : va_P (dC, dI) vwCl [(h0, .inr (0, [.ref hd, v_buffer, v_fetched, v_compared, v_maker, v_writer, .ref hp, .int 0, .int i_fetchedSteps])), (hp, .inr (4, [.int 0, .int 0, .int p_i_writesLeft])), (hd, .inl (cD, 8, .inr (.inr (.inr (.inr (fun _ => none))))))] s.heap := hP
  have hl := lv_entry ([.ref h0]) (n := 2) (Nat.le_of_ble_eq_true rfl)
  rw [lg_entry_eq]
  generalize (lg_sl ([.ref h0]) ++ List.replicate (2 - (lg_sl ([.ref h0])).length) Slot.unset).toArray = ls at hl ⊢
  have hl : lv_has ls 2 [(0, .ref h0)] := hl
  refine lv_aload_n hx hb d_K_make_0 rfl (lv_at hl 0 rfl) ?_
  have hPc := hP.sub (ws' := [(h0, .inr (0, [.ref hd, v_buffer, v_fetched, v_compared, v_maker, v_writer, .ref hp, .int 0, .int i_fetchedSteps])), (hp, .inr (4, [.int 0, .int 0, .int p_i_writesLeft]))]) [0, 1] rfl
  have hKc := hK.sub (tys' := []) [] rfl
  refine ps_v (va_runV (As := []) (rest := []) ⟨hx, hb, hml, hown, hw0⟩ (c_needPower l dC dI h0 (.ref hd) v_buffer v_fetched v_compared v_maker v_writer 0 i_fetchedSteps hp 0 p_i_writesLeft) (cwV 0 hw0 (gd_V 113 114 115 111 116 rfl rfl rfl rfl rfl) rfl rfl rfl (by decide +kernel) ⟨by decide +kernel, by decide +kernel⟩) (prV_R hPc hKc hN (va_recv hKc hPc (ci := 0) (q0 := 0) rfl rfl)) rfl rfl hl.1 rfl (lv_room (Nat.le_of_ble_eq_true rfl)) d_K_make_1 ⟨by decide +kernel, by decide +kernel⟩) ?_
  refine lv_aload_n hx hb d_K_make_4 rfl (lv_at hl 0 rfl) ?_
  refine va_get (D := (dC, dI)) (ci := 0) (v := .int 0) (C := R_K) (T := F_K) (N := 9) hx hb hw0 in_K hown hK hP 0 rfl rfl 7 (by decide) (hw0 (.fieldLink R_K 49 "TextKeeper" "madeDocuments" "I") (List.mem_of_getElem? (i := 106) rfl)) (fun _ h9 => h9) rfl d_K_make_5 ?_
  refine lv_bipush (v := 8) hx hb d_K_make_8 (by decide +kernel) ?_
  refine lv_icmp_lt (tgt := 15) hx hb d_K_make_10 (by decide) (fun _ => ?_) (fun h9 => absurd h9 (by decide +kernel))
  refine lv_aload_n hx hb d_K_make_15 rfl (lv_at hl 0 rfl) ?_
  refine lv_iconst (v := 1) hx hb d_K_make_16 (by decide) ?_
  have hPc := hP.sub (ws' := [(h0, .inr (0, [.ref hd, v_buffer, v_fetched, v_compared, v_maker, v_writer, .ref hp, .int 0, .int i_fetchedSteps])), (hp, .inr (4, [.int 0, .int 0, .int p_i_writesLeft]))]) [0, 1] rfl
  have hKc := hK.sub (tys' := []) [] rfl
  refine ps_v (va_runV (As := [.int 1]) (rest := []) ⟨hx, hb, hml, hown, hw0⟩ (c_spendWrites l dC dI h0 (.ref hd) v_buffer v_fetched v_compared v_maker v_writer 0 i_fetchedSteps hp 0 p_i_writesLeft 1) (cwV 1 hw0 (gd_V 154 155 156 111 157 rfl rfl rfl rfl rfl) rfl rfl rfl (by decide +kernel) ⟨by decide +kernel, by decide +kernel⟩) (prV_R hPc hKc hN (va_recv hKc hPc (ci := 0) (q0 := 0) rfl rfl)) rfl rfl hl.1 rfl (lv_room (Nat.le_of_ble_eq_true rfl)) d_K_make_17 ⟨by decide +kernel, by decide +kernel⟩) ?_
  refine lv_aload_n hx hb d_K_make_20 rfl (lv_at hl 0 rfl) ?_
  refine va_get (D := (dC, dI)) (ci := 0) (v := .int 0) (C := R_K) (T := F_K) (N := 9) hx hb hw0 in_K hown hK hP 0 rfl rfl 7 (by decide) (hw0 (.fieldLink R_K 49 "TextKeeper" "madeDocuments" "I") (List.mem_of_getElem? (i := 106) rfl)) (fun _ h9 => h9) rfl d_K_make_21 ?_
  refine lv_istore_n (lv' := [(1, .int 0), (0, .ref h0)]) hx hb d_K_make_24 rfl hl (by decide) rfl (fun ls hl => ?_)
  refine lv_aload_n hx hb d_K_make_25 rfl (lv_at hl 1 rfl) ?_
  refine va_get (D := (dC, dI)) (ci := 0) (v := .ref hd) (C := R_K) (T := F_K) (N := 9) hx hb hw0 in_K hown hK hP 0 rfl rfl 0 (by decide) (hw0 (.fieldLink R_K 11 "TextKeeper" "documents" "[LTextKeeper$Document;") (List.mem_of_getElem? (i := 79) rfl)) (fun _ h9 => h9) rfl d_K_make_26 ?_
  refine lv_iload_n hx hb d_K_make_29 rfl (lv_at hl 0 rfl) ?_
  refine va_new (ci := 5) (fs := [.null, .int 0, .int 0]) (C := R_D) (T := F_D) (N := 3) hx hb hw0 in_D ft_D tk_D hown (hw0 (.classLink R_K 9 R_D) (List.mem_of_getElem? (i := 78) rfl)) (hw0 (.instantiable R_D 3) (List.mem_of_getElem? (i := 158) rfl)) (hw0 (.initialized R_D) (List.mem_of_getElem? (i := 159) rfl)) hK hP hD hS hA rfl (fun j hj => nw_D j hj) (by decide +kernel) (by decide +kernel) d_K_make_30 (fun q_1 H hP hD hS => ?_)
  replace hP : va_P (dC, dI) vwCl [(h0, .inr (0, [.ref hd, v_buffer, v_fetched, v_compared, v_maker, v_writer, .ref hp, .int 0, .int i_fetchedSteps])), (hp, .inr (4, [.int 0, .int 0, .int p_i_writesLeft])), (hd, .inl (cD, 8, .inr (.inr (.inr (.inr (fun _ => none)))))), (q_1, .inr (5, [.null, .int 0, .int 0]))] H := hP
  replace hD : va_D A [(h0, .inr (0, [.ref hd, v_buffer, v_fetched, v_compared, v_maker, v_writer, .ref hp, .int 0, .int i_fetchedSteps])), (hp, .inr (4, [.int 0, .int 0, .int p_i_writesLeft])), (hd, .inl (cD, 8, .inr (.inr (.inr (.inr (fun _ => none)))))), (q_1, .inr (5, [.null, .int 0, .int 0]))] := hD
  refine W.widen (k := 1) (n := 3) (by decide +kernel) (by decide +kernel) ?_
  refine lv_dup hx hb d_K_make_33 rfl ?_
  have hPc := hP.sub (ws' := [(q_1, .inr (5, [.null, .int 0, .int 0]))]) [3] rfl
  have hKc := hK.sub (tys' := []) [] rfl
  have hDc := hD.sub (ws' := [(q_1, .inr (5, [.null, .int 0, .int 0]))]) [3] (by decide) rfl
  have hFc := va_free (wc := [(q_1, .inr (5, [.null, .int 0, .int 0]))]) hD hS hA [3] rfl
  refine va_callv (va_runI (As := []) (rest := [.ref q_1, .int 0, .ref hd]) ⟨hx, hb, hml, hown, hw0⟩ (c_Document_init l dC dI H.size q_1) (cwI 0 hw0 (gd_I 160 rfl) rfl rfl rfl (hw0 (.initialized R_D) (List.mem_of_getElem? (i := 159) rfl)) (hw0 (.methodLink R_K 73 y_D_init) (List.mem_of_getElem? (i := 161) rfl)) (hw0 (.instanceMethod y_D_init) (List.mem_of_getElem? (i := 162) rfl)) rfl (by decide +kernel) ⟨by decide +kernel, by decide +kernel⟩) (prS_E hPc hKc hDc hN) rfl rfl hl.1 rfl (lv_room (Nat.le_of_ble_eq_true rfl)) d_K_make_34 ⟨by decide +kernel, by decide +kernel⟩) hS (fun q _ h => hFc q h) hFc (fun u t H1 locs ht hvm hw hB hz1 hk1 hS => ?_)
  obtain ⟨q1_2, hP1, hK1, hD1⟩ := hB
  rw [ht] at hP1
  have hK1 := va_K.moved hvm.symm hK1
  try dsimp only at hw
  obtain ⟨hP, hD⟩ := va_join (wr := [(h0, .inr (0, [.ref hd, v_buffer, v_fetched, v_compared, v_maker, v_writer, .ref hp, .int 0, .int i_fetchedSteps])), (hp, .inr (4, [.int 0, .int 0, .int p_i_writesLeft])), (hd, .inl (cD, 8, .inr (.inr (.inr (.inr (fun _ => none))))))]) (w1 := [(q_1, .inr (5, [.ref q1_2, .int 0, .int 0]))]) hP hD [3] [0, 1, 2] rfl rfl (by decide) (by decide) hk1 hFc hP1 hD1
  generalize H1 = H at hP hS ⊢
  replace hP : va_P (dC, dI) vwCl [(h0, .inr (0, [.ref hd, v_buffer, v_fetched, v_compared, v_maker, v_writer, .ref hp, .int 0, .int i_fetchedSteps])), (hp, .inr (4, [.int 0, .int 0, .int p_i_writesLeft])), (hd, .inl (cD, 8, .inr (.inr (.inr (.inr (fun _ => none)))))), (q_1, .inr (5, [.ref q1_2, .int 0, .int 0]))] H := hP
  replace hD : va_D A [(h0, .inr (0, [.ref hd, v_buffer, v_fetched, v_compared, v_maker, v_writer, .ref hp, .int 0, .int i_fetchedSteps])), (hp, .inr (4, [.int 0, .int 0, .int p_i_writesLeft])), (hd, .inl (cD, 8, .inr (.inr (.inr (.inr (fun _ => none)))))), (q_1, .inr (5, [.ref q1_2, .int 0, .int 0]))] := hD
  replace hK : va_K (dC, dI) vwCl [(cD, .object R_D)] s := hK
  refine W.widen (k := 2) (n := 67) (by decide +kernel) (by decide +kernel) ?_
  refine va_astq hx hb hK hP hD hS 2 0 3 5 rfl rfl rfl rfl (by unfold vp_in; decide +kernel) d_K_make_37 (fun H locs hP hD hS => ?_)
  replace hP : va_P (dC, dI) vwCl [(h0, .inr (0, [.ref hd, v_buffer, v_fetched, v_compared, v_maker, v_writer, .ref hp, .int 0, .int i_fetchedSteps])), (hp, .inr (4, [.int 0, .int 0, .int p_i_writesLeft])), (hd, .inl (cD, 8, .inr (.inr (.inr (.inr (va_up (fun _ => none) (Int32.toNatClampNeg 0) (some q_1))))))), (q_1, .inr (5, [.ref q1_2, .int 0, .int 0]))] H := hP
  replace hD : va_D A [(h0, .inr (0, [.ref hd, v_buffer, v_fetched, v_compared, v_maker, v_writer, .ref hp, .int 0, .int i_fetchedSteps])), (hp, .inr (4, [.int 0, .int 0, .int p_i_writesLeft])), (hd, .inl (cD, 8, .inr (.inr (.inr (.inr (va_up (fun _ => none) (Int32.toNatClampNeg 0) (some q_1))))))), (q_1, .inr (5, [.ref q1_2, .int 0, .int 0]))] := hD
  refine lv_aload_n hx hb d_K_make_38 rfl (lv_at hl 1 rfl) ?_
  refine lv_dup hx hb d_K_make_39 rfl ?_
  refine va_get (D := (dC, dI)) (ci := 0) (v := .int 0) (C := R_K) (T := F_K) (N := 9) hx hb hw0 in_K hown hK hP 0 rfl rfl 7 (by decide) (hw0 (.fieldLink R_K 49 "TextKeeper" "madeDocuments" "I") (List.mem_of_getElem? (i := 106) rfl)) (fun _ h9 => h9) rfl d_K_make_40 ?_
  refine lv_iconst (v := 1) hx hb d_K_make_43 (by decide) ?_
  refine lv_iadd hx hb d_K_make_44 ?_
  refine lv_topi (fun x_4 ex_4 => ?_)
  obtain rfl : x_4 = 1 := ex_4.trans (by decide +kernel)
  clear ex_4
  refine va_put (D := (dC, dI)) (ci := 0) (v := .int 1) (ty := .int) (C := R_K) (T := F_K) (N := 9) hx hb hw0 in_K ft_K tk_K nk_K hown hK hP hD hS 0 rfl rfl 7 (by decide) (hw0 (.fieldLink R_K 49 "TextKeeper" "madeDocuments" "I") (List.mem_of_getElem? (i := 106) rfl)) (fun _ h9 => h9) rfl (by decide +kernel) rfl rfl (Nat.le_of_ble_eq_true rfl) d_K_make_45 (fun H locs hP hD hS => ?_)
  replace hP : va_P (dC, dI) vwCl [(h0, .inr (0, [.ref hd, v_buffer, v_fetched, v_compared, v_maker, v_writer, .ref hp, .int 1, .int i_fetchedSteps])), (hp, .inr (4, [.int 0, .int 0, .int p_i_writesLeft])), (hd, .inl (cD, 8, .inr (.inr (.inr (.inr (va_up (fun _ => none) (Int32.toNatClampNeg 0) (some q_1))))))), (q_1, .inr (5, [.ref q1_2, .int 0, .int 0]))] H := hP
  replace hD : va_D A [(h0, .inr (0, [.ref hd, v_buffer, v_fetched, v_compared, v_maker, v_writer, .ref hp, .int 1, .int i_fetchedSteps])), (hp, .inr (4, [.int 0, .int 0, .int p_i_writesLeft])), (hd, .inl (cD, 8, .inr (.inr (.inr (.inr (va_up (fun _ => none) (Int32.toNatClampNeg 0) (some q_1))))))), (q_1, .inr (5, [.ref q1_2, .int 0, .int 0]))] := hD
  refine lv_iload_n hx hb d_K_make_48 rfl (lv_at hl 0 rfl) ?_
  have hP9 := hP.sub (ws' := []) [] rfl
  have hD9 := hD.sub (ws' := []) [] (by decide) rfl
  have hK9 := hK.sub (tys' := []) [] rfl
  exact W.iret (v := 0) hx hb hr (fun t ht hW => ⟨⟨0, (), rfl, rfl, by rw [ht]; exact hP9, va_K.moved hW.alike hK9, hD9⟩, hS.F ht⟩) hS.2.2 d_K_make_49
set_option maxHeartbeats 4000000 in
set_option maxRecDepth 100000 in
theorem c_goAfter (l : Launch) (dC : Nat → ClassId) (dI : Nat → Nat → Nat) (sz : Nat) (h0 : Nat) (i_down : Int32) (i_going : Int32) (i_writesLeft : Int32) (a1 : Int32)  : Met l y_P_goAfter k_P_goAfter ({ frames := 0, cells := 0, slots := 0, locals := 0 } : Room) (va_Pc [.ref h0, .int a1] (pc_E (dC, dI) [(h0, .inr (4, [.int i_down, .int i_going, .int i_writesLeft]))] [] sz)) (va_Qv (fun (_ : Unit) => True) (fun (_ : Unit) t => at_E (dC, dI) (va_A [(h0, .inr (4, [.int i_down, .int i_going, .int i_writesLeft]))] sz) [] [] t) (va_A [(h0, .inr (4, [.int i_down, .int i_going, .int i_writesLeft]))] sz)) 0 0 (va_A [(h0, .inr (4, [.int i_down, .int i_going, .int i_writesLeft]))] sz) := by
  refine Met.ofW (cc := prog_5_method_2_code) (maxL := 2) (ret := none) (by decide) rfl ?_
  intro p e s m args below meth c s₁ B hml hv
  obtain ⟨rfl, hsz, hP, hK, hD0, hN⟩ := hv
  have hx := B.exec
  have hb := B.bytes
  have hr := B.returns
  have hts := atoms_spec (ws := k_P_goAfter) B.pre
  have hw0 : ∀ w ∈ w0, w.before _ s = true := fun w h => hts w (List.mem_cons_of_mem _ h)
  have hown : s.vm.findClass R_P = some m.cls := findClass_of_methodNamed B.named
  have hlocks := B.notSynchronized
  subst hsz
  have hD := hD0.self (sz := s.heap.size)
  generalize hAe : va_A [(h0, .inr (4, [.int i_down, .int i_going, .int i_writesLeft]))] s.heap.size = A at hD ⊢
  have hA : ∀ q : Nat, s.heap.size ≤ q → A q := fun q h => by rw [← hAe]; exact Or.inr h
  have hS : va_S A s.heap s.heap [] := va_S.rf
  have hP : va_P (dC, dI) vwCl [(h0, .inr (4, [.int i_down, .int i_going, .int i_writesLeft]))] s.heap := hP
  have hl := lv_entry ([.ref h0, .int a1]) (n := 2) (Nat.le_of_ble_eq_true rfl)
  rw [lg_entry_eq]
  generalize (lg_sl ([.ref h0, .int a1]) ++ List.replicate (2 - (lg_sl ([.ref h0, .int a1])).length) Slot.unset).toArray = ls at hl ⊢
  have hl : lv_has ls 2 [(0, .ref h0), (1, .int a1)] := hl
  refine lv_aload_n hx hb d_P_goAfter_0 rfl (lv_at hl 0 rfl) ?_
  refine lv_iconst (v := 1) hx hb d_P_goAfter_1 (by decide) ?_
  refine va_put (D := (dC, dI)) (ci := 4) (v := .int 1) (ty := .boolean) (C := R_P) (T := F_P) (N := 3) hx hb hw0 in_P ft_P tk_P nk_P hown hK hP hD hS 0 rfl rfl 1 (by decide) (hw0 (.fieldLink R_P 13 "TextKeeper$Power" "going" "Z") (List.mem_of_getElem? (i := 57) rfl)) (fun _ h9 => h9) rfl (by decide +kernel) rfl rfl (Nat.le_of_ble_eq_true rfl) d_P_goAfter_2 (fun H locs hP hD hS => ?_)
  replace hP : va_P (dC, dI) vwCl [(h0, .inr (4, [.int i_down, .int 1, .int i_writesLeft]))] H := hP
  replace hD : va_D A [(h0, .inr (4, [.int i_down, .int 1, .int i_writesLeft]))] := hD
  refine lv_aload_n hx hb d_P_goAfter_5 rfl (lv_at hl 0 rfl) ?_
  refine lv_iload_n hx hb d_P_goAfter_6 rfl (lv_at hl 1 rfl) ?_
  refine va_put (D := (dC, dI)) (ci := 4) (v := .int a1) (ty := .int) (C := R_P) (T := F_P) (N := 3) hx hb hw0 in_P ft_P tk_P nk_P hown hK hP hD hS 0 rfl rfl 2 (by decide) (hw0 (.fieldLink R_P 16 "TextKeeper$Power" "writesLeft" "I") (List.mem_of_getElem? (i := 58) rfl)) (fun _ h9 => h9) rfl (by decide +kernel) rfl rfl (Nat.le_of_ble_eq_true rfl) d_P_goAfter_7 (fun H locs hP hD hS => ?_)
  replace hP : va_P (dC, dI) vwCl [(h0, .inr (4, [.int i_down, .int 1, .int a1]))] H := hP
  replace hD : va_D A [(h0, .inr (4, [.int i_down, .int 1, .int a1]))] := hD
  have hP9 := hP.sub (ws' := []) [] rfl
  have hD9 := hD.sub (ws' := []) [] (by decide) rfl
  have hK9 := hK.sub (tys' := []) [] rfl
  exact W.vret hx hb hr (fun t ht hW => ⟨⟨(), rfl, trivial, by rw [ht]; exact hP9, va_K.moved hW.alike hK9, hD9⟩, hS.F ht⟩) hS.2.2 d_P_goAfter_10
set_option maxHeartbeats 4000000 in
set_option maxRecDepth 100000 in
theorem c_cutAfter_T (l : Launch) (dC : Nat → ClassId) (dI : Nat → Nat → Nat) (sz : Nat) (h0 : Nat) (v_documents : Value) (v_buffer : Value) (v_fetched : Value) (v_compared : Value) (v_maker : Value) (v_writer : Value) (i_madeDocuments : Int32) (i_fetchedSteps : Int32) (hp : Nat) (p_i_going : Int32) (p_i_writesLeft : Int32) (a1 : Int32) (h1 : ¬ a1 < 0) : Met l y_K_cutAfter k_K_cutAfter ({ frames := 1, cells := 0, slots := 0, locals := 21 } : Room) (va_Pc [.ref h0, .int a1] (pc_E (dC, dI) [(h0, .inr (0, [v_documents, v_buffer, v_fetched, v_compared, v_maker, v_writer, .ref hp, .int i_madeDocuments, .int i_fetchedSteps])), (hp, .inr (4, [.int 0, .int p_i_going, .int p_i_writesLeft]))] [] sz)) (va_Qi (fun (r : Int32) (_ : Unit) => r = 1) (fun (_ : Unit) t => at_E (dC, dI) (va_A [(h0, .inr (0, [v_documents, v_buffer, v_fetched, v_compared, v_maker, v_writer, .ref hp, .int i_madeDocuments, .int i_fetchedSteps])), (hp, .inr (4, [.int 0, .int p_i_going, .int p_i_writesLeft]))] sz) [] [] t) (va_A [(h0, .inr (0, [v_documents, v_buffer, v_fetched, v_compared, v_maker, v_writer, .ref hp, .int i_madeDocuments, .int i_fetchedSteps])), (hp, .inr (4, [.int 0, .int p_i_going, .int p_i_writesLeft]))] sz)) 0 0 (va_A [(h0, .inr (0, [v_documents, v_buffer, v_fetched, v_compared, v_maker, v_writer, .ref hp, .int i_madeDocuments, .int i_fetchedSteps])), (hp, .inr (4, [.int 0, .int p_i_going, .int p_i_writesLeft]))] sz) := by
  refine Met.ofW (cc := prog_1_method_18_code) (maxL := 2) (ret := (some .boolean)) (by decide) rfl ?_
  intro p e s m args below meth c s₁ B hml hv
  obtain ⟨rfl, hsz, hP, hK, hD0, hN⟩ := hv
  have hx := B.exec
  have hb := B.bytes
  have hr := B.returns
  have hts := atoms_spec (ws := k_K_cutAfter) B.pre
  have hw0 : ∀ w ∈ w0, w.before _ s = true := fun w h => hts w (List.mem_cons_of_mem _ h)
  have hown : s.vm.findClass R_K = some m.cls := findClass_of_methodNamed B.named
  have hlocks := B.notSynchronized
  subst hsz
  have hD := hD0.self (sz := s.heap.size)
  generalize hAe : va_A [(h0, .inr (0, [v_documents, v_buffer, v_fetched, v_compared, v_maker, v_writer, .ref hp, .int i_madeDocuments, .int i_fetchedSteps])), (hp, .inr (4, [.int 0, .int p_i_going, .int p_i_writesLeft]))] s.heap.size = A at hD ⊢
  have hA : ∀ q : Nat, s.heap.size ≤ q → A q := fun q h => by rw [← hAe]; exact Or.inr h
  have hS : va_S A s.heap s.heap [] := va_S.rf
  have hP : va_P (dC, dI) vwCl [(h0, .inr (0, [v_documents, v_buffer, v_fetched, v_compared, v_maker, v_writer, .ref hp, .int i_madeDocuments, .int i_fetchedSteps])), (hp, .inr (4, [.int 0, .int p_i_going, .int p_i_writesLeft]))] s.heap := hP
  have hl := lv_entry ([.ref h0, .int a1]) (n := 2) (Nat.le_of_ble_eq_true rfl)
  rw [lg_entry_eq]
  generalize (lg_sl ([.ref h0, .int a1]) ++ List.replicate (2 - (lg_sl ([.ref h0, .int a1])).length) Slot.unset).toArray = ls at hl ⊢
  have hl : lv_has ls 2 [(0, .ref h0), (1, .int a1)] := hl
  refine lv_aload_n hx hb d_K_cutAfter_0 rfl (lv_at hl 0 rfl) ?_
  have hPc := hP.sub (ws' := [(h0, .inr (0, [v_documents, v_buffer, v_fetched, v_compared, v_maker, v_writer, .ref hp, .int i_madeDocuments, .int i_fetchedSteps])), (hp, .inr (4, [.int 0, .int p_i_going, .int p_i_writesLeft]))]) [0, 1] rfl
  have hKc := hK.sub (tys' := []) [] rfl
  refine ps_v (va_runV (As := []) (rest := []) ⟨hx, hb, hml, hown, hw0⟩ (c_needPower l dC dI h0 v_documents v_buffer v_fetched v_compared v_maker v_writer i_madeDocuments i_fetchedSteps hp p_i_going p_i_writesLeft) (cwV 0 hw0 (gd_V 113 114 115 111 116 rfl rfl rfl rfl rfl) rfl rfl rfl (by decide +kernel) ⟨by decide +kernel, by decide +kernel⟩) (prV_R hPc hKc hN (va_recv hKc hPc (ci := 0) (q0 := 0) rfl rfl)) rfl rfl hl.1 rfl (lv_room (Nat.le_of_ble_eq_true rfl)) d_K_cutAfter_1 ⟨by decide +kernel, by decide +kernel⟩) ?_
  refine lv_iload_n hx hb d_K_cutAfter_4 rfl (lv_at hl 1 rfl) ?_
  refine lv_if_ge (tgt := 10) hx hb d_K_cutAfter_5 (by decide) (fun c_1 => ?_) (fun c_1 => absurd (Int32.not_lt.mp h1) c_1)
  refine lv_aload_n hx hb d_K_cutAfter_10 rfl (lv_at hl 0 rfl) ?_
  refine va_get (D := (dC, dI)) (ci := 0) (v := .ref hp) (C := R_K) (T := F_K) (N := 9) hx hb hw0 in_K hown hK hP 0 rfl rfl 6 (by decide) (hw0 (.fieldLink R_K 45 "TextKeeper" "power" "LTextKeeper$Power;") (List.mem_of_getElem? (i := 105) rfl)) (fun _ h9 => h9) rfl d_K_cutAfter_11 ?_
  refine lv_iload_n hx hb d_K_cutAfter_14 rfl (lv_at hl 1 rfl) ?_
  have hPc := hP.sub (ws' := [(hp, .inr (4, [.int 0, .int p_i_going, .int p_i_writesLeft]))]) [1] rfl
  have hKc := hK.sub (tys' := []) [] rfl
  have hDc := hD.sub (ws' := [(hp, .inr (4, [.int 0, .int p_i_going, .int p_i_writesLeft]))]) [1] (by decide) rfl
  have hFc := va_free (wc := [(hp, .inr (4, [.int 0, .int p_i_going, .int p_i_writesLeft]))]) hD hS hA [1] rfl
  refine va_callv (va_runV (As := [.int a1]) (rest := []) ⟨hx, hb, hml, hown, hw0⟩ (c_goAfter l dC dI s.heap.size hp 0 p_i_going p_i_writesLeft a1) (cwV 1 hw0 (gd_V 163 164 165 101 166 rfl rfl rfl rfl rfl) rfl rfl rfl (by decide +kernel) ⟨by decide +kernel, by decide +kernel⟩) (prV_E hPc hKc hDc hN (va_recv hKc hPc (ci := 4) (q0 := 0) rfl rfl)) rfl rfl hl.1 rfl (lv_room (Nat.le_of_ble_eq_true rfl)) d_K_cutAfter_15 ⟨by decide +kernel, by decide +kernel⟩) hS (fun q _ h => hFc q h) hFc (fun u t H1 locs ht hvm hw hB hz1 hk1 hS => ?_)
  obtain ⟨hP1, hK1, hD1⟩ := hB
  rw [ht] at hP1
  have hK1 := va_K.moved hvm.symm hK1
  try dsimp only at hw
  obtain ⟨hP, hD⟩ := va_join (wr := [(h0, .inr (0, [v_documents, v_buffer, v_fetched, v_compared, v_maker, v_writer, .ref hp, .int i_madeDocuments, .int i_fetchedSteps]))]) (w1 := []) hP hD [1] [0] rfl rfl (by decide) (by decide) hk1 hFc hP1 hD1
  generalize H1 = H at hP hS ⊢
  replace hP : va_P (dC, dI) vwCl [(h0, .inr (0, [v_documents, v_buffer, v_fetched, v_compared, v_maker, v_writer, .ref hp, .int i_madeDocuments, .int i_fetchedSteps]))] H := hP
  replace hD : va_D A [(h0, .inr (0, [v_documents, v_buffer, v_fetched, v_compared, v_maker, v_writer, .ref hp, .int i_madeDocuments, .int i_fetchedSteps]))] := hD
  replace hK : va_K (dC, dI) vwCl [] s := hK
  refine lv_iconst (v := 1) hx hb d_K_cutAfter_18 (by decide) ?_
  have hP9 := hP.sub (ws' := []) [] rfl
  have hD9 := hD.sub (ws' := []) [] (by decide) rfl
  have hK9 := hK.sub (tys' := []) [] rfl
  exact W.zret (v := 1) (ty := .boolean) hx hb hr rfl (fun t ht hW => ⟨⟨1, (), rfl, rfl, by rw [ht]; exact hP9, va_K.moved hW.alike hK9, hD9⟩, hS.F ht⟩) hS.2.2 d_K_cutAfter_19
set_option maxHeartbeats 4000000 in
set_option maxRecDepth 100000 in
theorem c_cutAfter_F (l : Launch) (dC : Nat → ClassId) (dI : Nat → Nat → Nat) (h0 : Nat) (v_documents : Value) (v_buffer : Value) (v_fetched : Value) (v_compared : Value) (v_maker : Value) (v_writer : Value) (i_madeDocuments : Int32) (i_fetchedSteps : Int32) (hp : Nat) (p_i_going : Int32) (p_i_writesLeft : Int32) (a1 : Int32) (h1 : a1 < 0) : Met l y_K_cutAfter k_K_cutAfter ({ frames := 1, cells := 0, slots := 0, locals := 20 } : Room) (va_Pc [.ref h0, .int a1] (pc_R (dC, dI) [(h0, .inr (0, [v_documents, v_buffer, v_fetched, v_compared, v_maker, v_writer, .ref hp, .int i_madeDocuments, .int i_fetchedSteps])), (hp, .inr (4, [.int 0, .int p_i_going, .int p_i_writesLeft]))] [])) (vp_Si (fun r => r = 0)) 0 0 (fun _ => False) := by
  refine Met.ofW (cc := prog_1_method_18_code) (maxL := 2) (ret := (some .boolean)) (by decide) rfl ?_
  intro p e s m args below meth c s₁ B hml hv
  obtain ⟨rfl, hP, hK, hN⟩ := hv
  have hx := B.exec
  have hb := B.bytes
  have hr := B.returns
  have hts := atoms_spec (ws := k_K_cutAfter) B.pre
  have hw0 : ∀ w ∈ w0, w.before _ s = true := fun w h => hts w (List.mem_cons_of_mem _ h)
  have hown : s.vm.findClass R_K = some m.cls := findClass_of_methodNamed B.named
  have hlocks := B.notSynchronized
  have hP : va_P (dC, dI) vwCl [(h0, .inr (0, [v_documents, v_buffer, v_fetched, v_compared, v_maker, v_writer, .ref hp, .int i_madeDocuments, .int i_fetchedSteps])), (hp, .inr (4, [.int 0, .int p_i_going, .int p_i_writesLeft]))] s.heap := hP
  have hl := lv_entry ([.ref h0, .int a1]) (n := 2) (Nat.le_of_ble_eq_true rfl)
  rw [lg_entry_eq]
  generalize (lg_sl ([.ref h0, .int a1]) ++ List.replicate (2 - (lg_sl ([.ref h0, .int a1])).length) Slot.unset).toArray = ls at hl ⊢
  have hl : lv_has ls 2 [(0, .ref h0), (1, .int a1)] := hl
  refine lv_aload_n hx hb d_K_cutAfter_0 rfl (lv_at hl 0 rfl) ?_
  have hPc := hP.sub (ws' := [(h0, .inr (0, [v_documents, v_buffer, v_fetched, v_compared, v_maker, v_writer, .ref hp, .int i_madeDocuments, .int i_fetchedSteps])), (hp, .inr (4, [.int 0, .int p_i_going, .int p_i_writesLeft]))]) [0, 1] rfl
  have hKc := hK.sub (tys' := []) [] rfl
  refine ps_v (va_runV (As := []) (rest := []) ⟨hx, hb, hml, hown, hw0⟩ (c_needPower l dC dI h0 v_documents v_buffer v_fetched v_compared v_maker v_writer i_madeDocuments i_fetchedSteps hp p_i_going p_i_writesLeft) (cwV 0 hw0 (gd_V 113 114 115 111 116 rfl rfl rfl rfl rfl) rfl rfl rfl (by decide +kernel) ⟨by decide +kernel, by decide +kernel⟩) (prV_R hPc hKc hN (va_recv hKc hPc (ci := 0) (q0 := 0) rfl rfl)) rfl rfl hl.1 rfl (lv_room (Nat.le_of_ble_eq_true rfl)) d_K_cutAfter_1 ⟨by decide +kernel, by decide +kernel⟩) ?_
  refine lv_iload_n hx hb d_K_cutAfter_4 rfl (lv_at hl 1 rfl) ?_
  refine lv_if_ge (tgt := 10) hx hb d_K_cutAfter_5 (by decide) (fun c_1 => absurd h1 (Int32.not_lt.mpr c_1)) (fun c_1 => ?_)
  refine lv_iconst (v := 0) hx hb d_K_cutAfter_8 (by decide) ?_
  exact W.zret (v := 0) (ty := .boolean) hx hb hr rfl (fun t ht hW => ⟨0, rfl, rfl, ht⟩) (fun q h => by cases h) d_K_cutAfter_9
end
section
set_option maxHeartbeats 4000000 in
set_option maxRecDepth 100000 in
theorem m_runs (l : Launch) (dC : Nat → ClassId) (dI : Nat → Nat → Nat) (sz : Nat) (h0 : Nat) (i_thrown : Int32) (i_lasts : Int32) (v_buffer : Value) (i_size : Int32) (i_documents : Int32) (v_gone : Value) (v_first : Value) (v_many : Value) (v_lengths : Value) (v_authors : Value) (v_sums : Value) (v_row : Value) (v_made : Value) (i_madeSize : Int32) (v_base : Value) (i_baseSize : Int32) (v_text : Value) (i_textSize : Int32) (i_textSteps : Int32) (v_other : Value) (i_otherSize : Int32) (v_piece : Value) (i_pieceSize : Int32) (i_at : Int32) (i_end : Int32) (i_value : Int32) (a1 : Int32)  : Met l y_O_runs k_O_runs ({ frames := 0, cells := 0, slots := 0, locals := 0 } : Room) (va_Pc [.ref h0, .int a1] (pc_E (dC, dI) [(h0, .inr (7, [.int i_thrown, .int 0, .int i_lasts, v_buffer, .int i_size, .int i_documents, v_gone, v_first, v_many, v_lengths, v_authors, v_sums, v_row, v_made, .int i_madeSize, v_base, .int i_baseSize, v_text, .int i_textSize, .int i_textSteps, v_other, .int i_otherSize, v_piece, .int i_pieceSize, .int i_at, .int i_end, .int i_value]))] [] sz)) (va_Qi (fun (r : Int32) (_ : Unit) => r = 1) (fun (_ : Unit) t => at_E (dC, dI) (va_A [(h0, .inr (7, [.int i_thrown, .int 0, .int i_lasts, v_buffer, .int i_size, .int i_documents, v_gone, v_first, v_many, v_lengths, v_authors, v_sums, v_row, v_made, .int i_madeSize, v_base, .int i_baseSize, v_text, .int i_textSize, .int i_textSteps, v_other, .int i_otherSize, v_piece, .int i_pieceSize, .int i_at, .int i_end, .int i_value]))] sz) [(h0, .inr (7, [.int 0, .int 0, .int i_lasts, v_buffer, .int i_size, .int i_documents, v_gone, v_first, v_many, v_lengths, v_authors, v_sums, v_row, v_made, .int i_madeSize, v_base, .int i_baseSize, v_text, .int i_textSize, .int i_textSteps, v_other, .int i_otherSize, v_piece, .int i_pieceSize, .int i_at, .int i_end, .int i_value]))] [] t) (va_A [(h0, .inr (7, [.int i_thrown, .int 0, .int i_lasts, v_buffer, .int i_size, .int i_documents, v_gone, v_first, v_many, v_lengths, v_authors, v_sums, v_row, v_made, .int i_madeSize, v_base, .int i_baseSize, v_text, .int i_textSize, .int i_textSteps, v_other, .int i_otherSize, v_piece, .int i_pieceSize, .int i_at, .int i_end, .int i_value]))] sz)) 0 0 (va_A [(h0, .inr (7, [.int i_thrown, .int 0, .int i_lasts, v_buffer, .int i_size, .int i_documents, v_gone, v_first, v_many, v_lengths, v_authors, v_sums, v_row, v_made, .int i_madeSize, v_base, .int i_baseSize, v_text, .int i_textSize, .int i_textSteps, v_other, .int i_otherSize, v_piece, .int i_pieceSize, .int i_at, .int i_end, .int i_value]))] sz) := by
  refine Met.ofW (cc := prog_9_method_3_code) (maxL := 2) (ret := (some .boolean)) (by decide) rfl ?_
  intro p e s m args below meth c s₁ B hml hv
  obtain ⟨rfl, hsz, hP, hK, hD0, hN⟩ := hv
  have hx := B.exec
  have hb := B.bytes
  have hr := B.returns
  have hts := atoms_spec (ws := k_O_runs) B.pre
  have hw0 : ∀ w ∈ w0, w.before _ s = true := fun w h => hts w (List.mem_cons_of_mem _ h)
  have hown : s.vm.findClass R_O = some m.cls := findClass_of_methodNamed B.named
  have hlocks := B.notSynchronized
  subst hsz
  have hD := hD0.self (sz := s.heap.size)
  generalize hAe : va_A [(h0, .inr (7, [.int i_thrown, .int 0, .int i_lasts, v_buffer, .int i_size, .int i_documents, v_gone, v_first, v_many, v_lengths, v_authors, v_sums, v_row, v_made, .int i_madeSize, v_base, .int i_baseSize, v_text, .int i_textSize, .int i_textSteps, v_other, .int i_otherSize, v_piece, .int i_pieceSize, .int i_at, .int i_end, .int i_value]))] s.heap.size = A at hD ⊢
  have hA : ∀ q : Nat, s.heap.size ≤ q → A q := fun q h => by rw [← hAe]; exact Or.inr h
  have hS : va_S A s.heap s.heap [] := va_S.rf
  have hP : va_P (dC, dI) vwCl [(h0, .inr (7, [.int i_thrown, .int 0, .int i_lasts, v_buffer, .int i_size, .int i_documents, v_gone, v_first, v_many, v_lengths, v_authors, v_sums, v_row, v_made, .int i_madeSize, v_base, .int i_baseSize, v_text, .int i_textSize, .int i_textSteps, v_other, .int i_otherSize, v_piece, .int i_pieceSize, .int i_at, .int i_end, .int i_value]))] s.heap := hP
  have hl := lv_entry ([.ref h0, .int a1]) (n := 2) (Nat.le_of_ble_eq_true rfl)
  rw [lg_entry_eq]
  generalize (lg_sl ([.ref h0, .int a1]) ++ List.replicate (2 - (lg_sl ([.ref h0, .int a1])).length) Slot.unset).toArray = ls at hl ⊢
  have hl : lv_has ls 2 [(0, .ref h0), (1, .int a1)] := hl
  refine lv_aload_n hx hb d_O_runs_0 rfl (lv_at hl 0 rfl) ?_
  refine lv_aload_n hx hb d_O_runs_1 rfl (lv_at hl 0 rfl) ?_
  refine va_get (D := (dC, dI)) (ci := 7) (v := .int 0) (C := R_O) (T := F_O) (N := 27) hx hb hw0 in_O hown hK hP 0 rfl rfl 1 (by decide) (hw0 (.fieldLink R_O 65 "TextKeeperModel" "down" "Z") (List.mem_of_getElem? (i := 167) rfl)) (fun _ h9 => h9) rfl d_O_runs_2 ?_
  refine lv_if_eq (tgt := 12) hx hb d_O_runs_5 (by decide) (fun _ => ?_) (fun h9 => absurd h9 (by decide +kernel))
  refine lv_iconst (v := 0) hx hb d_O_runs_12 (by decide) ?_
  refine va_put (D := (dC, dI)) (ci := 7) (v := .int 0) (ty := .int) (C := R_O) (T := F_O) (N := 27) hx hb hw0 in_O ft_O tk_O nk_O hown hK hP hD hS 0 rfl rfl 0 (by decide) (hw0 (.fieldLink R_O 62 "TextKeeperModel" "thrown" "I") (List.mem_of_getElem? (i := 168) rfl)) (fun _ h9 => h9) rfl (by decide +kernel) rfl rfl (Nat.le_of_ble_eq_true rfl) d_O_runs_13 (fun H locs hP hD hS => ?_)
  replace hP : va_P (dC, dI) vwCl [(h0, .inr (7, [.int 0, .int 0, .int i_lasts, v_buffer, .int i_size, .int i_documents, v_gone, v_first, v_many, v_lengths, v_authors, v_sums, v_row, v_made, .int i_madeSize, v_base, .int i_baseSize, v_text, .int i_textSize, .int i_textSteps, v_other, .int i_otherSize, v_piece, .int i_pieceSize, .int i_at, .int i_end, .int i_value]))] H := hP
  replace hD : va_D A [(h0, .inr (7, [.int 0, .int 0, .int i_lasts, v_buffer, .int i_size, .int i_documents, v_gone, v_first, v_many, v_lengths, v_authors, v_sums, v_row, v_made, .int i_madeSize, v_base, .int i_baseSize, v_text, .int i_textSize, .int i_textSteps, v_other, .int i_otherSize, v_piece, .int i_pieceSize, .int i_at, .int i_end, .int i_value]))] := hD
  refine lv_aload_n hx hb d_O_runs_16 rfl (lv_at hl 0 rfl) ?_
  refine va_get (D := (dC, dI)) (ci := 7) (v := .int 0) (C := R_O) (T := F_O) (N := 27) hx hb hw0 in_O hown hK hP 0 rfl rfl 1 (by decide) (hw0 (.fieldLink R_O 65 "TextKeeperModel" "down" "Z") (List.mem_of_getElem? (i := 167) rfl)) (fun _ h9 => h9) rfl d_O_runs_17 ?_
  refine lv_if_ne (tgt := 27) hx hb d_O_runs_20 (by decide) (fun h9 => absurd h9 (by decide +kernel)) (fun _ => ?_)
  refine lv_iconst (v := 1) hx hb d_O_runs_23 (by decide) ?_
  refine lv_goto (tgt := 28) hx hb d_O_runs_24 (by decide) ?_
  have hP9 := hP.sub (ws' := [(h0, .inr (7, [.int 0, .int 0, .int i_lasts, v_buffer, .int i_size, .int i_documents, v_gone, v_first, v_many, v_lengths, v_authors, v_sums, v_row, v_made, .int i_madeSize, v_base, .int i_baseSize, v_text, .int i_textSize, .int i_textSteps, v_other, .int i_otherSize, v_piece, .int i_pieceSize, .int i_at, .int i_end, .int i_value]))]) [0] rfl
  have hD9 := hD.sub (ws' := [(h0, .inr (7, [.int 0, .int 0, .int i_lasts, v_buffer, .int i_size, .int i_documents, v_gone, v_first, v_many, v_lengths, v_authors, v_sums, v_row, v_made, .int i_madeSize, v_base, .int i_baseSize, v_text, .int i_textSize, .int i_textSteps, v_other, .int i_otherSize, v_piece, .int i_pieceSize, .int i_at, .int i_end, .int i_value]))]) [0] (by decide) rfl
  have hK9 := hK.sub (tys' := []) [] rfl
  exact W.zret (v := 1) (ty := .boolean) hx hb hr rfl (fun t ht hW => ⟨⟨1, (), rfl, rfl, by rw [ht]; exact hP9, va_K.moved hW.alike hK9, hD9⟩, hS.F ht⟩) hS.2.2 d_O_runs_28
set_option maxHeartbeats 4000000 in
set_option maxRecDepth 100000 in
theorem m_thrown (l : Launch) (dC : Nat → ClassId) (dI : Nat → Nat → Nat) (h0 : Nat) (i_thrown : Int32) (i_down : Int32) (i_lasts : Int32) (v_buffer : Value) (i_size : Int32) (i_documents : Int32) (v_gone : Value) (v_first : Value) (v_many : Value) (v_lengths : Value) (v_authors : Value) (v_sums : Value) (v_row : Value) (v_made : Value) (i_madeSize : Int32) (v_base : Value) (i_baseSize : Int32) (v_text : Value) (i_textSize : Int32) (i_textSteps : Int32) (v_other : Value) (i_otherSize : Int32) (v_piece : Value) (i_pieceSize : Int32) (i_at : Int32) (i_end : Int32) (i_value : Int32)  : Met l y_O_thrown k_O_thrown ({ frames := 0, cells := 0, slots := 0, locals := 0 } : Room) (va_Pc [.ref h0] (pc_R (dC, dI) [(h0, .inr (7, [.int i_thrown, .int i_down, .int i_lasts, v_buffer, .int i_size, .int i_documents, v_gone, v_first, v_many, v_lengths, v_authors, v_sums, v_row, v_made, .int i_madeSize, v_base, .int i_baseSize, v_text, .int i_textSize, .int i_textSteps, v_other, .int i_otherSize, v_piece, .int i_pieceSize, .int i_at, .int i_end, .int i_value]))] [])) (vp_Si (fun r => r = i_thrown)) 0 0 (fun _ => False) := by
  refine Met.ofW (cc := prog_9_method_2_code) (maxL := 1) (ret := (some .int)) (by decide) rfl ?_
  intro p e s m args below meth c s₁ B hml hv
  obtain ⟨rfl, hP, hK, hN⟩ := hv
  have hx := B.exec
  have hb := B.bytes
  have hr := B.returns
  have hts := atoms_spec (ws := k_O_thrown) B.pre
  have hw0 : ∀ w ∈ w0, w.before _ s = true := fun w h => hts w (List.mem_cons_of_mem _ h)
  have hown : s.vm.findClass R_O = some m.cls := findClass_of_methodNamed B.named
  have hlocks := B.notSynchronized
  have hP : va_P (dC, dI) vwCl [(h0, .inr (7, [.int i_thrown, .int i_down, .int i_lasts, v_buffer, .int i_size, .int i_documents, v_gone, v_first, v_many, v_lengths, v_authors, v_sums, v_row, v_made, .int i_madeSize, v_base, .int i_baseSize, v_text, .int i_textSize, .int i_textSteps, v_other, .int i_otherSize, v_piece, .int i_pieceSize, .int i_at, .int i_end, .int i_value]))] s.heap := hP
  have hl := lv_entry ([.ref h0]) (n := 1) (Nat.le_of_ble_eq_true rfl)
  rw [lg_entry_eq]
  generalize (lg_sl ([.ref h0]) ++ List.replicate (1 - (lg_sl ([.ref h0])).length) Slot.unset).toArray = ls at hl ⊢
  have hl : lv_has ls 1 [(0, .ref h0)] := hl
  refine lv_aload_n hx hb d_O_thrown_0 rfl (lv_at hl 0 rfl) ?_
  refine va_get (D := (dC, dI)) (ci := 7) (v := .int i_thrown) (C := R_O) (T := F_O) (N := 27) hx hb hw0 in_O hown hK hP 0 rfl rfl 0 (by decide) (hw0 (.fieldLink R_O 62 "TextKeeperModel" "thrown" "I") (List.mem_of_getElem? (i := 168) rfl)) (fun _ h9 => h9) rfl d_O_thrown_1 ?_
  exact W.iret (v := i_thrown) hx hb hr (fun t ht hW => ⟨i_thrown, rfl, rfl, ht⟩) (fun q h => by cases h) d_O_thrown_4
set_option maxHeartbeats 4000000 in
set_option maxRecDepth 100000 in
theorem m_isDocument (l : Launch) (dC : Nat → ClassId) (dI : Nat → Nat → Nat) (h0 : Nat) (i_thrown : Int32) (i_down : Int32) (i_lasts : Int32) (v_buffer : Value) (i_size : Int32) (v_gone : Value) (v_first : Value) (v_many : Value) (v_lengths : Value) (v_authors : Value) (v_sums : Value) (v_row : Value) (v_made : Value) (i_madeSize : Int32) (v_base : Value) (i_baseSize : Int32) (v_text : Value) (i_textSize : Int32) (i_textSteps : Int32) (v_other : Value) (i_otherSize : Int32) (v_piece : Value) (i_pieceSize : Int32) (i_at : Int32) (i_end : Int32) (i_value : Int32) (a1 : Int32)  : Met l y_O_isDocument k_O_isDocument ({ frames := 0, cells := 0, slots := 0, locals := 0 } : Room) (va_Pc [.ref h0, .int a1] (pc_R (dC, dI) [(h0, .inr (7, [.int i_thrown, .int i_down, .int i_lasts, v_buffer, .int i_size, .int 0, v_gone, v_first, v_many, v_lengths, v_authors, v_sums, v_row, v_made, .int i_madeSize, v_base, .int i_baseSize, v_text, .int i_textSize, .int i_textSteps, v_other, .int i_otherSize, v_piece, .int i_pieceSize, .int i_at, .int i_end, .int i_value]))] [])) (vp_Si (fun r => r = 0)) 0 0 (fun _ => False) := by
  refine Met.ofW (cc := prog_9_method_7_code) (maxL := 2) (ret := (some .boolean)) (by decide) rfl ?_
  intro p e s m args below meth c s₁ B hml hv
  obtain ⟨rfl, hP, hK, hN⟩ := hv
  have hx := B.exec
  have hb := B.bytes
  have hr := B.returns
  have hts := atoms_spec (ws := k_O_isDocument) B.pre
  have hw0 : ∀ w ∈ w0, w.before _ s = true := fun w h => hts w (List.mem_cons_of_mem _ h)
  have hown : s.vm.findClass R_O = some m.cls := findClass_of_methodNamed B.named
  have hlocks := B.notSynchronized
  have hP : va_P (dC, dI) vwCl [(h0, .inr (7, [.int i_thrown, .int i_down, .int i_lasts, v_buffer, .int i_size, .int 0, v_gone, v_first, v_many, v_lengths, v_authors, v_sums, v_row, v_made, .int i_madeSize, v_base, .int i_baseSize, v_text, .int i_textSize, .int i_textSteps, v_other, .int i_otherSize, v_piece, .int i_pieceSize, .int i_at, .int i_end, .int i_value]))] s.heap := hP
  have hl := lv_entry ([.ref h0, .int a1]) (n := 2) (Nat.le_of_ble_eq_true rfl)
  rw [lg_entry_eq]
  generalize (lg_sl ([.ref h0, .int a1]) ++ List.replicate (2 - (lg_sl ([.ref h0, .int a1])).length) Slot.unset).toArray = ls at hl ⊢
  have hl : lv_has ls 2 [(0, .ref h0), (1, .int a1)] := hl
  refine lv_iload_n hx hb d_O_isDocument_0 rfl (lv_at hl 1 rfl) ?_
  refine lv_if_lt (tgt := 25) hx hb d_O_isDocument_1 (by decide) (fun c_1 => ?_) (fun c_1 => ?_)
  · refine lv_iconst (v := 0) hx hb d_O_isDocument_25 (by decide) ?_
    exact W.zret (v := 0) (ty := .boolean) hx hb hr rfl (fun t ht hW => ⟨0, rfl, rfl, ht⟩) (fun q h => by cases h) d_O_isDocument_26
  · refine lv_iload_n hx hb d_O_isDocument_4 rfl (lv_at hl 1 rfl) ?_
    refine lv_aload_n hx hb d_O_isDocument_5 rfl (lv_at hl 0 rfl) ?_
    refine va_get (D := (dC, dI)) (ci := 7) (v := .int 0) (C := R_O) (T := F_O) (N := 27) hx hb hw0 in_O hown hK hP 0 rfl rfl 5 (by decide) (hw0 (.fieldLink R_O 76 "TextKeeperModel" "documents" "I") (List.mem_of_getElem? (i := 169) rfl)) (fun _ h9 => h9) rfl d_O_isDocument_6 ?_
    refine lv_icmp_ge (tgt := 25) hx hb d_O_isDocument_9 (by decide) (fun c_2 => ?_) (fun c_2 => (x_nn c_1 c_2).elim)
    refine lv_iconst (v := 0) hx hb d_O_isDocument_25 (by decide) ?_
    exact W.zret (v := 0) (ty := .boolean) hx hb hr rfl (fun t ht hW => ⟨0, rfl, rfl, ht⟩) (fun q h => by cases h) d_O_isDocument_26
set_option maxHeartbeats 4000000 in
set_option maxRecDepth 100000 in
theorem m_isAsked (l : Launch) (dC : Nat → ClassId) (dI : Nat → Nat → Nat) (h0 : Nat) (i_thrown : Int32) (i_down : Int32) (i_lasts : Int32) (v_buffer : Value) (i_size : Int32) (v_gone : Value) (v_first : Value) (v_many : Value) (v_lengths : Value) (v_authors : Value) (v_sums : Value) (v_row : Value) (v_made : Value) (i_madeSize : Int32) (v_base : Value) (i_baseSize : Int32) (v_text : Value) (i_textSize : Int32) (i_textSteps : Int32) (v_other : Value) (i_otherSize : Int32) (v_piece : Value) (i_pieceSize : Int32) (i_at : Int32) (i_end : Int32) (i_value : Int32) (a1 : Int32) (a2 : Int32)  : Met l y_O_isAsked k_O_isAsked ({ frames := 1, cells := 0, slots := 0, locals := 21 } : Room) (va_Pc [.ref h0, .int a1, .int a2] (pc_R (dC, dI) [(h0, .inr (7, [.int i_thrown, .int i_down, .int i_lasts, v_buffer, .int i_size, .int 0, v_gone, v_first, v_many, v_lengths, v_authors, v_sums, v_row, v_made, .int i_madeSize, v_base, .int i_baseSize, v_text, .int i_textSize, .int i_textSteps, v_other, .int i_otherSize, v_piece, .int i_pieceSize, .int i_at, .int i_end, .int i_value]))] [])) (vp_Si (fun r => r = 0)) 0 0 (fun _ => False) := by
  refine Met.ofW (cc := prog_9_method_8_code) (maxL := 3) (ret := (some .boolean)) (by decide) rfl ?_
  intro p e s m args below meth c s₁ B hml hv
  obtain ⟨rfl, hP, hK, hN⟩ := hv
  have hx := B.exec
  have hb := B.bytes
  have hr := B.returns
  have hts := atoms_spec (ws := k_O_isAsked) B.pre
  have hw0 : ∀ w ∈ w0, w.before _ s = true := fun w h => hts w (List.mem_cons_of_mem _ h)
  have hown : s.vm.findClass R_O = some m.cls := findClass_of_methodNamed B.named
  have hlocks := B.notSynchronized
  have hP : va_P (dC, dI) vwCl [(h0, .inr (7, [.int i_thrown, .int i_down, .int i_lasts, v_buffer, .int i_size, .int 0, v_gone, v_first, v_many, v_lengths, v_authors, v_sums, v_row, v_made, .int i_madeSize, v_base, .int i_baseSize, v_text, .int i_textSize, .int i_textSteps, v_other, .int i_otherSize, v_piece, .int i_pieceSize, .int i_at, .int i_end, .int i_value]))] s.heap := hP
  have hl := lv_entry ([.ref h0, .int a1, .int a2]) (n := 3) (Nat.le_of_ble_eq_true rfl)
  rw [lg_entry_eq]
  generalize (lg_sl ([.ref h0, .int a1, .int a2]) ++ List.replicate (3 - (lg_sl ([.ref h0, .int a1, .int a2])).length) Slot.unset).toArray = ls at hl ⊢
  have hl : lv_has ls 3 [(0, .ref h0), (1, .int a1), (2, .int a2)] := hl
  refine lv_aload_n hx hb d_O_isAsked_0 rfl (lv_at hl 0 rfl) ?_
  refine lv_iload_n hx hb d_O_isAsked_1 rfl (lv_at hl 1 rfl) ?_
  have hPc := hP.sub (ws' := [(h0, .inr (7, [.int i_thrown, .int i_down, .int i_lasts, v_buffer, .int i_size, .int 0, v_gone, v_first, v_many, v_lengths, v_authors, v_sums, v_row, v_made, .int i_madeSize, v_base, .int i_baseSize, v_text, .int i_textSize, .int i_textSteps, v_other, .int i_otherSize, v_piece, .int i_pieceSize, .int i_at, .int i_end, .int i_value]))]) [0] rfl
  have hKc := hK.sub (tys' := []) [] rfl
  refine ps_i (va_runV (As := [.int a1]) (rest := []) ⟨hx, hb, hml, hown, hw0⟩ (m_isDocument l dC dI h0 i_thrown i_down i_lasts v_buffer i_size v_gone v_first v_many v_lengths v_authors v_sums v_row v_made i_madeSize v_base i_baseSize v_text i_textSize i_textSteps v_other i_otherSize v_piece i_pieceSize i_at i_end i_value a1) (cwV 1 hw0 (gd_V 170 171 172 173 174 rfl rfl rfl rfl rfl) rfl rfl rfl (by decide +kernel) ⟨by decide +kernel, by decide +kernel⟩) (prV_R hPc hKc hN (va_recv hKc hPc (ci := 7) (q0 := 0) rfl rfl)) rfl rfl hl.1 rfl (lv_room (Nat.le_of_ble_eq_true rfl)) d_O_isAsked_2 ⟨by decide +kernel, by decide +kernel⟩) (fun r_1 hr_1 => ?_)
  obtain rfl : r_1 = 0 := hr_1
  refine lv_if_eq (tgt := 32) hx hb d_O_isAsked_5 (by decide) (fun _ => ?_) (fun h9 => absurd h9 (by decide +kernel))
  refine lv_iconst (v := 0) hx hb d_O_isAsked_32 (by decide) ?_
  exact W.zret (v := 0) (ty := .boolean) hx hb hr rfl (fun t ht hW => ⟨0, rfl, rfl, ht⟩) (fun q h => by cases h) d_O_isAsked_33
set_option maxHeartbeats 4000000 in
set_option maxRecDepth 100000 in
theorem m_kept (l : Launch) (dC : Nat → ClassId) (dI : Nat → Nat → Nat) (h0 : Nat) (i_thrown : Int32) (i_down : Int32) (i_lasts : Int32) (v_buffer : Value) (i_size : Int32) (v_gone : Value) (v_first : Value) (v_many : Value) (v_lengths : Value) (v_authors : Value) (v_sums : Value) (v_row : Value) (v_made : Value) (i_madeSize : Int32) (v_base : Value) (i_baseSize : Int32) (v_text : Value) (i_textSize : Int32) (i_textSteps : Int32) (v_other : Value) (i_otherSize : Int32) (v_piece : Value) (i_pieceSize : Int32) (i_at : Int32) (i_end : Int32) (i_value : Int32) (a1 : Int32) (a2 : Int32)  : Met l y_O_kept k_O_kept ({ frames := 1, cells := 0, slots := 0, locals := 21 } : Room) (va_Pc [.ref h0, .int a1, .int a2] (pc_R (dC, dI) [(h0, .inr (7, [.int i_thrown, .int i_down, .int i_lasts, v_buffer, .int i_size, .int 0, v_gone, v_first, v_many, v_lengths, v_authors, v_sums, v_row, v_made, .int i_madeSize, v_base, .int i_baseSize, v_text, .int i_textSize, .int i_textSteps, v_other, .int i_otherSize, v_piece, .int i_pieceSize, .int i_at, .int i_end, .int i_value]))] [])) (vp_Si (fun r => r = (-1))) 0 0 (fun _ => False) := by
  refine Met.ofW (cc := prog_9_method_9_code) (maxL := 3) (ret := (some .int)) (by decide) rfl ?_
  intro p e s m args below meth c s₁ B hml hv
  obtain ⟨rfl, hP, hK, hN⟩ := hv
  have hx := B.exec
  have hb := B.bytes
  have hr := B.returns
  have hts := atoms_spec (ws := k_O_kept) B.pre
  have hw0 : ∀ w ∈ w0, w.before _ s = true := fun w h => hts w (List.mem_cons_of_mem _ h)
  have hown : s.vm.findClass R_O = some m.cls := findClass_of_methodNamed B.named
  have hlocks := B.notSynchronized
  have hP : va_P (dC, dI) vwCl [(h0, .inr (7, [.int i_thrown, .int i_down, .int i_lasts, v_buffer, .int i_size, .int 0, v_gone, v_first, v_many, v_lengths, v_authors, v_sums, v_row, v_made, .int i_madeSize, v_base, .int i_baseSize, v_text, .int i_textSize, .int i_textSteps, v_other, .int i_otherSize, v_piece, .int i_pieceSize, .int i_at, .int i_end, .int i_value]))] s.heap := hP
  have hl := lv_entry ([.ref h0, .int a1, .int a2]) (n := 3) (Nat.le_of_ble_eq_true rfl)
  rw [lg_entry_eq]
  generalize (lg_sl ([.ref h0, .int a1, .int a2]) ++ List.replicate (3 - (lg_sl ([.ref h0, .int a1, .int a2])).length) Slot.unset).toArray = ls at hl ⊢
  have hl : lv_has ls 3 [(0, .ref h0), (1, .int a1), (2, .int a2)] := hl
  refine lv_aload_n hx hb d_O_kept_0 rfl (lv_at hl 0 rfl) ?_
  refine lv_iload_n hx hb d_O_kept_1 rfl (lv_at hl 1 rfl) ?_
  have hPc := hP.sub (ws' := [(h0, .inr (7, [.int i_thrown, .int i_down, .int i_lasts, v_buffer, .int i_size, .int 0, v_gone, v_first, v_many, v_lengths, v_authors, v_sums, v_row, v_made, .int i_madeSize, v_base, .int i_baseSize, v_text, .int i_textSize, .int i_textSteps, v_other, .int i_otherSize, v_piece, .int i_pieceSize, .int i_at, .int i_end, .int i_value]))]) [0] rfl
  have hKc := hK.sub (tys' := []) [] rfl
  refine ps_i (va_runV (As := [.int a1]) (rest := []) ⟨hx, hb, hml, hown, hw0⟩ (m_isDocument l dC dI h0 i_thrown i_down i_lasts v_buffer i_size v_gone v_first v_many v_lengths v_authors v_sums v_row v_made i_madeSize v_base i_baseSize v_text i_textSize i_textSteps v_other i_otherSize v_piece i_pieceSize i_at i_end i_value a1) (cwV 1 hw0 (gd_V 170 171 172 173 174 rfl rfl rfl rfl rfl) rfl rfl rfl (by decide +kernel) ⟨by decide +kernel, by decide +kernel⟩) (prV_R hPc hKc hN (va_recv hKc hPc (ci := 7) (q0 := 0) rfl rfl)) rfl rfl hl.1 rfl (lv_room (Nat.le_of_ble_eq_true rfl)) d_O_kept_2 ⟨by decide +kernel, by decide +kernel⟩) (fun r_1 hr_1 => ?_)
  obtain rfl : r_1 = 0 := hr_1
  refine lv_if_eq (tgt := 42) hx hb d_O_kept_5 (by decide) (fun _ => ?_) (fun h9 => absurd h9 (by decide +kernel))
  refine lv_iconst (v := (-1)) hx hb d_O_kept_42 (by decide) ?_
  exact W.iret (v := (-1)) hx hb hr (fun t ht hW => ⟨(-1), rfl, rfl, ht⟩) (fun q h => by cases h) d_O_kept_43
set_option maxHeartbeats 4000000 in
set_option maxRecDepth 100000 in
theorem m_writes (l : Launch) (dC : Nat → ClassId) (dI : Nat → Nat → Nat) (sz : Nat) (h0 : Nat) (i_thrown : Int32) (i_down : Int32) (v_buffer : Value) (i_size : Int32) (i_documents : Int32) (v_gone : Value) (v_first : Value) (v_many : Value) (v_lengths : Value) (v_authors : Value) (v_sums : Value) (v_row : Value) (v_made : Value) (i_madeSize : Int32) (v_base : Value) (i_baseSize : Int32) (v_text : Value) (i_textSize : Int32) (i_textSteps : Int32) (v_other : Value) (i_otherSize : Int32) (v_piece : Value) (i_pieceSize : Int32) (i_at : Int32) (i_end : Int32) (i_value : Int32) (a1 : Int32)  : Met l y_O_writes k_O_writes ({ frames := 0, cells := 0, slots := 0, locals := 0 } : Room) (va_Pc [.ref h0, .int a1] (pc_E (dC, dI) [(h0, .inr (7, [.int i_thrown, .int i_down, .int (-1), v_buffer, .int i_size, .int i_documents, v_gone, v_first, v_many, v_lengths, v_authors, v_sums, v_row, v_made, .int i_madeSize, v_base, .int i_baseSize, v_text, .int i_textSize, .int i_textSteps, v_other, .int i_otherSize, v_piece, .int i_pieceSize, .int i_at, .int i_end, .int i_value]))] [] sz)) (va_Qi (fun (r : Int32) (_ : Unit) => r = 1) (fun (_ : Unit) t => at_E (dC, dI) (va_A [(h0, .inr (7, [.int i_thrown, .int i_down, .int (-1), v_buffer, .int i_size, .int i_documents, v_gone, v_first, v_many, v_lengths, v_authors, v_sums, v_row, v_made, .int i_madeSize, v_base, .int i_baseSize, v_text, .int i_textSize, .int i_textSteps, v_other, .int i_otherSize, v_piece, .int i_pieceSize, .int i_at, .int i_end, .int i_value]))] sz) [(h0, .inr (7, [.int i_thrown, .int i_down, .int (-1), v_buffer, .int i_size, .int i_documents, v_gone, v_first, v_many, v_lengths, v_authors, v_sums, v_row, v_made, .int i_madeSize, v_base, .int i_baseSize, v_text, .int i_textSize, .int i_textSteps, v_other, .int i_otherSize, v_piece, .int i_pieceSize, .int i_at, .int i_end, .int i_value]))] [] t) (va_A [(h0, .inr (7, [.int i_thrown, .int i_down, .int (-1), v_buffer, .int i_size, .int i_documents, v_gone, v_first, v_many, v_lengths, v_authors, v_sums, v_row, v_made, .int i_madeSize, v_base, .int i_baseSize, v_text, .int i_textSize, .int i_textSteps, v_other, .int i_otherSize, v_piece, .int i_pieceSize, .int i_at, .int i_end, .int i_value]))] sz)) 0 0 (va_A [(h0, .inr (7, [.int i_thrown, .int i_down, .int (-1), v_buffer, .int i_size, .int i_documents, v_gone, v_first, v_many, v_lengths, v_authors, v_sums, v_row, v_made, .int i_madeSize, v_base, .int i_baseSize, v_text, .int i_textSize, .int i_textSteps, v_other, .int i_otherSize, v_piece, .int i_pieceSize, .int i_at, .int i_end, .int i_value]))] sz) := by
  refine Met.ofW (cc := prog_9_method_4_code) (maxL := 2) (ret := (some .boolean)) (by decide) rfl ?_
  intro p e s m args below meth c s₁ B hml hv
  obtain ⟨rfl, hsz, hP, hK, hD0, hN⟩ := hv
  have hx := B.exec
  have hb := B.bytes
  have hr := B.returns
  have hts := atoms_spec (ws := k_O_writes) B.pre
  have hw0 : ∀ w ∈ w0, w.before _ s = true := fun w h => hts w (List.mem_cons_of_mem _ h)
  have hown : s.vm.findClass R_O = some m.cls := findClass_of_methodNamed B.named
  have hlocks := B.notSynchronized
  subst hsz
  have hD := hD0.self (sz := s.heap.size)
  generalize hAe : va_A [(h0, .inr (7, [.int i_thrown, .int i_down, .int (-1), v_buffer, .int i_size, .int i_documents, v_gone, v_first, v_many, v_lengths, v_authors, v_sums, v_row, v_made, .int i_madeSize, v_base, .int i_baseSize, v_text, .int i_textSize, .int i_textSteps, v_other, .int i_otherSize, v_piece, .int i_pieceSize, .int i_at, .int i_end, .int i_value]))] s.heap.size = A at hD ⊢
  have hA : ∀ q : Nat, s.heap.size ≤ q → A q := fun q h => by rw [← hAe]; exact Or.inr h
  have hS : va_S A s.heap s.heap [] := va_S.rf
  have hP : va_P (dC, dI) vwCl [(h0, .inr (7, [.int i_thrown, .int i_down, .int (-1), v_buffer, .int i_size, .int i_documents, v_gone, v_first, v_many, v_lengths, v_authors, v_sums, v_row, v_made, .int i_madeSize, v_base, .int i_baseSize, v_text, .int i_textSize, .int i_textSteps, v_other, .int i_otherSize, v_piece, .int i_pieceSize, .int i_at, .int i_end, .int i_value]))] s.heap := hP
  have hl := lv_entry ([.ref h0, .int a1]) (n := 2) (Nat.le_of_ble_eq_true rfl)
  rw [lg_entry_eq]
  generalize (lg_sl ([.ref h0, .int a1]) ++ List.replicate (2 - (lg_sl ([.ref h0, .int a1])).length) Slot.unset).toArray = ls at hl ⊢
  have hl : lv_has ls 2 [(0, .ref h0), (1, .int a1)] := hl
  refine lv_aload_n hx hb d_O_writes_0 rfl (lv_at hl 0 rfl) ?_
  refine va_get (D := (dC, dI)) (ci := 7) (v := .int (-1)) (C := R_O) (T := F_O) (N := 27) hx hb hw0 in_O hown hK hP 0 rfl rfl 2 (by decide) (hw0 (.fieldLink R_O 9 "TextKeeperModel" "lasts" "I") (List.mem_of_getElem? (i := 175) rfl)) (fun _ h9 => h9) rfl d_O_writes_1 ?_
  refine lv_iconst (v := (-1)) hx hb d_O_writes_4 (by decide) ?_
  refine lv_icmp_eq (tgt := 16) hx hb d_O_writes_5 (by decide) (fun _ => ?_) (fun h9 => absurd h9 (by decide +kernel))
  refine lv_aload_n hx hb d_O_writes_16 rfl (lv_at hl 0 rfl) ?_
  refine lv_aload_n hx hb d_O_writes_17 rfl (lv_at hl 0 rfl) ?_
  refine va_get (D := (dC, dI)) (ci := 7) (v := .int (-1)) (C := R_O) (T := F_O) (N := 27) hx hb hw0 in_O hown hK hP 0 rfl rfl 2 (by decide) (hw0 (.fieldLink R_O 9 "TextKeeperModel" "lasts" "I") (List.mem_of_getElem? (i := 175) rfl)) (fun _ h9 => h9) rfl d_O_writes_18 ?_
  refine lv_iconst (v := (-1)) hx hb d_O_writes_21 (by decide) ?_
  refine lv_icmp_ne (tgt := 29) hx hb d_O_writes_22 (by decide) (fun h9 => absurd h9 (by decide +kernel)) (fun _ => ?_)
  refine lv_iconst (v := (-1)) hx hb d_O_writes_25 (by decide) ?_
  refine lv_goto (tgt := 35) hx hb d_O_writes_26 (by decide) ?_
  refine va_put (D := (dC, dI)) (ci := 7) (v := .int (-1)) (ty := .int) (C := R_O) (T := F_O) (N := 27) hx hb hw0 in_O ft_O tk_O nk_O hown hK hP hD hS 0 rfl rfl 2 (by decide) (hw0 (.fieldLink R_O 9 "TextKeeperModel" "lasts" "I") (List.mem_of_getElem? (i := 175) rfl)) (fun _ h9 => h9) rfl (by decide +kernel) rfl rfl (Nat.le_of_ble_eq_true rfl) d_O_writes_35 (fun H locs hP hD hS => ?_)
  replace hP : va_P (dC, dI) vwCl [(h0, .inr (7, [.int i_thrown, .int i_down, .int (-1), v_buffer, .int i_size, .int i_documents, v_gone, v_first, v_many, v_lengths, v_authors, v_sums, v_row, v_made, .int i_madeSize, v_base, .int i_baseSize, v_text, .int i_textSize, .int i_textSteps, v_other, .int i_otherSize, v_piece, .int i_pieceSize, .int i_at, .int i_end, .int i_value]))] H := hP
  replace hD : va_D A [(h0, .inr (7, [.int i_thrown, .int i_down, .int (-1), v_buffer, .int i_size, .int i_documents, v_gone, v_first, v_many, v_lengths, v_authors, v_sums, v_row, v_made, .int i_madeSize, v_base, .int i_baseSize, v_text, .int i_textSize, .int i_textSteps, v_other, .int i_otherSize, v_piece, .int i_pieceSize, .int i_at, .int i_end, .int i_value]))] := hD
  refine lv_iconst (v := 1) hx hb d_O_writes_38 (by decide) ?_
  have hP9 := hP.sub (ws' := [(h0, .inr (7, [.int i_thrown, .int i_down, .int (-1), v_buffer, .int i_size, .int i_documents, v_gone, v_first, v_many, v_lengths, v_authors, v_sums, v_row, v_made, .int i_madeSize, v_base, .int i_baseSize, v_text, .int i_textSize, .int i_textSteps, v_other, .int i_otherSize, v_piece, .int i_pieceSize, .int i_at, .int i_end, .int i_value]))]) [0] rfl
  have hD9 := hD.sub (ws' := [(h0, .inr (7, [.int i_thrown, .int i_down, .int (-1), v_buffer, .int i_size, .int i_documents, v_gone, v_first, v_many, v_lengths, v_authors, v_sums, v_row, v_made, .int i_madeSize, v_base, .int i_baseSize, v_text, .int i_textSize, .int i_textSteps, v_other, .int i_otherSize, v_piece, .int i_pieceSize, .int i_at, .int i_end, .int i_value]))]) [0] (by decide) rfl
  have hK9 := hK.sub (tys' := []) [] rfl
  exact W.zret (v := 1) (ty := .boolean) hx hb hr rfl (fun t ht hW => ⟨⟨1, (), rfl, rfl, by rw [ht]; exact hP9, va_K.moved hW.alike hK9, hD9⟩, hS.F ht⟩) hS.2.2 d_O_writes_39
set_option maxHeartbeats 4000000 in
set_option maxRecDepth 100000 in
theorem m_make (l : Launch) (dC : Nat → ClassId) (dI : Nat → Nat → Nat) (sz : Nat) (h0 : Nat) (i_thrown : Int32) (v_buffer : Value) (i_size : Int32) (v_gone : Value) (v_first : Value) (v_many : Value) (v_lengths : Value) (v_authors : Value) (v_sums : Value) (v_row : Value) (v_made : Value) (i_madeSize : Int32) (v_base : Value) (i_baseSize : Int32) (v_text : Value) (i_textSize : Int32) (i_textSteps : Int32) (v_other : Value) (i_otherSize : Int32) (v_piece : Value) (i_pieceSize : Int32) (i_at : Int32) (i_end : Int32) (i_value : Int32)  : Met l y_O_make k_O_make ({ frames := 1, cells := 0, slots := 0, locals := 21 } : Room) (va_Pc [.ref h0] (pc_E (dC, dI) [(h0, .inr (7, [.int i_thrown, .int 0, .int (-1), v_buffer, .int i_size, .int 0, v_gone, v_first, v_many, v_lengths, v_authors, v_sums, v_row, v_made, .int i_madeSize, v_base, .int i_baseSize, v_text, .int i_textSize, .int i_textSteps, v_other, .int i_otherSize, v_piece, .int i_pieceSize, .int i_at, .int i_end, .int i_value]))] [] sz)) (va_Qi (fun (r : Int32) (_ : Unit) => r = 0) (fun (_ : Unit) t => at_E (dC, dI) (va_A [(h0, .inr (7, [.int i_thrown, .int 0, .int (-1), v_buffer, .int i_size, .int 0, v_gone, v_first, v_many, v_lengths, v_authors, v_sums, v_row, v_made, .int i_madeSize, v_base, .int i_baseSize, v_text, .int i_textSize, .int i_textSteps, v_other, .int i_otherSize, v_piece, .int i_pieceSize, .int i_at, .int i_end, .int i_value]))] sz) [(h0, .inr (7, [.int 0, .int 0, .int (-1), v_buffer, .int i_size, .int 1, v_gone, v_first, v_many, v_lengths, v_authors, v_sums, v_row, v_made, .int i_madeSize, v_base, .int i_baseSize, v_text, .int i_textSize, .int i_textSteps, v_other, .int i_otherSize, v_piece, .int i_pieceSize, .int i_at, .int i_end, .int i_value]))] [] t) (va_A [(h0, .inr (7, [.int i_thrown, .int 0, .int (-1), v_buffer, .int i_size, .int 0, v_gone, v_first, v_many, v_lengths, v_authors, v_sums, v_row, v_made, .int i_madeSize, v_base, .int i_baseSize, v_text, .int i_textSize, .int i_textSteps, v_other, .int i_otherSize, v_piece, .int i_pieceSize, .int i_at, .int i_end, .int i_value]))] sz)) 0 0 (va_A [(h0, .inr (7, [.int i_thrown, .int 0, .int (-1), v_buffer, .int i_size, .int 0, v_gone, v_first, v_many, v_lengths, v_authors, v_sums, v_row, v_made, .int i_madeSize, v_base, .int i_baseSize, v_text, .int i_textSize, .int i_textSteps, v_other, .int i_otherSize, v_piece, .int i_pieceSize, .int i_at, .int i_end, .int i_value]))] sz) := by
  refine Met.ofW (cc := prog_9_method_16_code) (maxL := 1) (ret := (some .int)) (by decide) rfl ?_
  intro p e s m args below meth c s₁ B hml hv
  obtain ⟨rfl, hsz, hP, hK, hD0, hN⟩ := hv
  have hx := B.exec
  have hb := B.bytes
  have hr := B.returns
  have hts := atoms_spec (ws := k_O_make) B.pre
  have hw0 : ∀ w ∈ w0, w.before _ s = true := fun w h => hts w (List.mem_cons_of_mem _ h)
  have hown : s.vm.findClass R_O = some m.cls := findClass_of_methodNamed B.named
  have hlocks := B.notSynchronized
  subst hsz
  have hD := hD0.self (sz := s.heap.size)
  generalize hAe : va_A [(h0, .inr (7, [.int i_thrown, .int 0, .int (-1), v_buffer, .int i_size, .int 0, v_gone, v_first, v_many, v_lengths, v_authors, v_sums, v_row, v_made, .int i_madeSize, v_base, .int i_baseSize, v_text, .int i_textSize, .int i_textSteps, v_other, .int i_otherSize, v_piece, .int i_pieceSize, .int i_at, .int i_end, .int i_value]))] s.heap.size = A at hD ⊢
  have hA : ∀ q : Nat, s.heap.size ≤ q → A q := fun q h => by rw [← hAe]; exact Or.inr h
  have hS : va_S A s.heap s.heap [] := va_S.rf
  have hP : va_P (dC, dI) vwCl [(h0, .inr (7, [.int i_thrown, .int 0, .int (-1), v_buffer, .int i_size, .int 0, v_gone, v_first, v_many, v_lengths, v_authors, v_sums, v_row, v_made, .int i_madeSize, v_base, .int i_baseSize, v_text, .int i_textSize, .int i_textSteps, v_other, .int i_otherSize, v_piece, .int i_pieceSize, .int i_at, .int i_end, .int i_value]))] s.heap := hP
  have hl := lv_entry ([.ref h0]) (n := 1) (Nat.le_of_ble_eq_true rfl)
  rw [lg_entry_eq]
  generalize (lg_sl ([.ref h0]) ++ List.replicate (1 - (lg_sl ([.ref h0])).length) Slot.unset).toArray = ls at hl ⊢
  have hl : lv_has ls 1 [(0, .ref h0)] := hl
  refine lv_aload_n hx hb d_O_make_0 rfl (lv_at hl 0 rfl) ?_
  refine lv_iconst (v := 1) hx hb d_O_make_1 (by decide) ?_
  have hPc := hP.sub (ws' := [(h0, .inr (7, [.int i_thrown, .int 0, .int (-1), v_buffer, .int i_size, .int 0, v_gone, v_first, v_many, v_lengths, v_authors, v_sums, v_row, v_made, .int i_madeSize, v_base, .int i_baseSize, v_text, .int i_textSize, .int i_textSteps, v_other, .int i_otherSize, v_piece, .int i_pieceSize, .int i_at, .int i_end, .int i_value]))]) [0] rfl
  have hKc := hK.sub (tys' := []) [] rfl
  have hDc := hD.sub (ws' := [(h0, .inr (7, [.int i_thrown, .int 0, .int (-1), v_buffer, .int i_size, .int 0, v_gone, v_first, v_many, v_lengths, v_authors, v_sums, v_row, v_made, .int i_madeSize, v_base, .int i_baseSize, v_text, .int i_textSize, .int i_textSteps, v_other, .int i_otherSize, v_piece, .int i_pieceSize, .int i_at, .int i_end, .int i_value]))]) [0] (by decide) rfl
  have hFc := va_free (wc := [(h0, .inr (7, [.int i_thrown, .int 0, .int (-1), v_buffer, .int i_size, .int 0, v_gone, v_first, v_many, v_lengths, v_authors, v_sums, v_row, v_made, .int i_madeSize, v_base, .int i_baseSize, v_text, .int i_textSize, .int i_textSteps, v_other, .int i_otherSize, v_piece, .int i_pieceSize, .int i_at, .int i_end, .int i_value]))]) hD hS hA [0] rfl
  refine va_calli (va_runV (As := [.int 1]) (rest := []) ⟨hx, hb, hml, hown, hw0⟩ (m_runs l dC dI s.heap.size h0 i_thrown (-1) v_buffer i_size 0 v_gone v_first v_many v_lengths v_authors v_sums v_row v_made i_madeSize v_base i_baseSize v_text i_textSize i_textSteps v_other i_otherSize v_piece i_pieceSize i_at i_end i_value 1) (cwV 1 hw0 (gd_V 176 177 178 173 179 rfl rfl rfl rfl rfl) rfl rfl rfl (by decide +kernel) ⟨by decide +kernel, by decide +kernel⟩) (prV_E hPc hKc hDc hN (va_recv hKc hPc (ci := 7) (q0 := 0) rfl rfl)) rfl rfl hl.1 rfl (lv_room (Nat.le_of_ble_eq_true rfl)) d_O_make_2 ⟨by decide +kernel, by decide +kernel⟩) hS (fun q _ h => hFc q h) hFc (fun r_1 u t H1 locs ht hvm hw hB hz1 hk1 hS => ?_)
  obtain ⟨hP1, hK1, hD1⟩ := hB
  rw [ht] at hP1
  have hK1 := va_K.moved hvm.symm hK1
  try dsimp only at hw
  obtain ⟨hP, hD⟩ := va_join (wr := []) (w1 := [(h0, .inr (7, [.int 0, .int 0, .int (-1), v_buffer, .int i_size, .int 0, v_gone, v_first, v_many, v_lengths, v_authors, v_sums, v_row, v_made, .int i_madeSize, v_base, .int i_baseSize, v_text, .int i_textSize, .int i_textSteps, v_other, .int i_otherSize, v_piece, .int i_pieceSize, .int i_at, .int i_end, .int i_value]))]) hP hD [0] [] rfl rfl (by decide) (by decide) hk1 hFc hP1 hD1
  generalize H1 = H at hP hS ⊢
  replace hP : va_P (dC, dI) vwCl [(h0, .inr (7, [.int 0, .int 0, .int (-1), v_buffer, .int i_size, .int 0, v_gone, v_first, v_many, v_lengths, v_authors, v_sums, v_row, v_made, .int i_madeSize, v_base, .int i_baseSize, v_text, .int i_textSize, .int i_textSteps, v_other, .int i_otherSize, v_piece, .int i_pieceSize, .int i_at, .int i_end, .int i_value]))] H := hP
  replace hD : va_D A [(h0, .inr (7, [.int 0, .int 0, .int (-1), v_buffer, .int i_size, .int 0, v_gone, v_first, v_many, v_lengths, v_authors, v_sums, v_row, v_made, .int i_madeSize, v_base, .int i_baseSize, v_text, .int i_textSize, .int i_textSteps, v_other, .int i_otherSize, v_piece, .int i_pieceSize, .int i_at, .int i_end, .int i_value]))] := hD
  replace hK : va_K (dC, dI) vwCl [] s := hK
  obtain rfl : r_1 = 1 := hw
  refine lv_if_eq (tgt := 17) hx hb d_O_make_5 (by decide) (fun h9 => absurd h9 (by decide +kernel)) (fun _ => ?_)
  refine lv_aload_n hx hb d_O_make_8 rfl (lv_at hl 0 rfl) ?_
  refine va_get (D := (dC, dI)) (ci := 7) (v := .int 0) (C := R_O) (T := F_O) (N := 27) hx hb hw0 in_O hown hK hP 0 rfl rfl 5 (by decide) (hw0 (.fieldLink R_O 76 "TextKeeperModel" "documents" "I") (List.mem_of_getElem? (i := 169) rfl)) (fun _ h9 => h9) rfl d_O_make_9 ?_
  refine lv_bipush (v := 8) hx hb d_O_make_12 (by decide +kernel) ?_
  refine lv_icmp_ne (tgt := 30) hx hb d_O_make_14 (by decide) (fun _ => ?_) (fun h9 => absurd h9 (by decide +kernel))
  refine lv_aload_n hx hb d_O_make_30 rfl (lv_at hl 0 rfl) ?_
  refine lv_iconst (v := 1) hx hb d_O_make_31 (by decide) ?_
  have hPc := hP.sub (ws' := [(h0, .inr (7, [.int 0, .int 0, .int (-1), v_buffer, .int i_size, .int 0, v_gone, v_first, v_many, v_lengths, v_authors, v_sums, v_row, v_made, .int i_madeSize, v_base, .int i_baseSize, v_text, .int i_textSize, .int i_textSteps, v_other, .int i_otherSize, v_piece, .int i_pieceSize, .int i_at, .int i_end, .int i_value]))]) [0] rfl
  have hKc := hK.sub (tys' := []) [] rfl
  have hDc := hD.sub (ws' := [(h0, .inr (7, [.int 0, .int 0, .int (-1), v_buffer, .int i_size, .int 0, v_gone, v_first, v_many, v_lengths, v_authors, v_sums, v_row, v_made, .int i_madeSize, v_base, .int i_baseSize, v_text, .int i_textSize, .int i_textSteps, v_other, .int i_otherSize, v_piece, .int i_pieceSize, .int i_at, .int i_end, .int i_value]))]) [0] (by decide) rfl
  have hFc := va_free (wc := [(h0, .inr (7, [.int 0, .int 0, .int (-1), v_buffer, .int i_size, .int 0, v_gone, v_first, v_many, v_lengths, v_authors, v_sums, v_row, v_made, .int i_madeSize, v_base, .int i_baseSize, v_text, .int i_textSize, .int i_textSteps, v_other, .int i_otherSize, v_piece, .int i_pieceSize, .int i_at, .int i_end, .int i_value]))]) hD hS hA [0] rfl
  refine va_calli (va_runV (As := [.int 1]) (rest := []) ⟨hx, hb, hml, hown, hw0⟩ (m_writes l dC dI H.size h0 0 0 v_buffer i_size 0 v_gone v_first v_many v_lengths v_authors v_sums v_row v_made i_madeSize v_base i_baseSize v_text i_textSize i_textSteps v_other i_otherSize v_piece i_pieceSize i_at i_end i_value 1) (cwV 1 hw0 (gd_V 180 181 182 173 183 rfl rfl rfl rfl rfl) rfl rfl rfl (by decide +kernel) ⟨by decide +kernel, by decide +kernel⟩) (prV_E hPc hKc hDc hN (va_recv hKc hPc (ci := 7) (q0 := 0) rfl rfl)) rfl rfl hl.1 rfl (lv_room (Nat.le_of_ble_eq_true rfl)) d_O_make_32 ⟨by decide +kernel, by decide +kernel⟩) hS (fun q _ h => hFc q h) hFc (fun r_3 u t H1 locs ht hvm hw hB hz1 hk1 hS => ?_)
  obtain ⟨hP1, hK1, hD1⟩ := hB
  rw [ht] at hP1
  have hK1 := va_K.moved hvm.symm hK1
  try dsimp only at hw
  obtain ⟨hP, hD⟩ := va_join (wr := []) (w1 := [(h0, .inr (7, [.int 0, .int 0, .int (-1), v_buffer, .int i_size, .int 0, v_gone, v_first, v_many, v_lengths, v_authors, v_sums, v_row, v_made, .int i_madeSize, v_base, .int i_baseSize, v_text, .int i_textSize, .int i_textSteps, v_other, .int i_otherSize, v_piece, .int i_pieceSize, .int i_at, .int i_end, .int i_value]))]) hP hD [0] [] rfl rfl (by decide) (by decide) hk1 hFc hP1 hD1
  generalize H1 = H at hP hS ⊢
  replace hP : va_P (dC, dI) vwCl [(h0, .inr (7, [.int 0, .int 0, .int (-1), v_buffer, .int i_size, .int 0, v_gone, v_first, v_many, v_lengths, v_authors, v_sums, v_row, v_made, .int i_madeSize, v_base, .int i_baseSize, v_text, .int i_textSize, .int i_textSteps, v_other, .int i_otherSize, v_piece, .int i_pieceSize, .int i_at, .int i_end, .int i_value]))] H := hP
  replace hD : va_D A [(h0, .inr (7, [.int 0, .int 0, .int (-1), v_buffer, .int i_size, .int 0, v_gone, v_first, v_many, v_lengths, v_authors, v_sums, v_row, v_made, .int i_madeSize, v_base, .int i_baseSize, v_text, .int i_textSize, .int i_textSteps, v_other, .int i_otherSize, v_piece, .int i_pieceSize, .int i_at, .int i_end, .int i_value]))] := hD
  replace hK : va_K (dC, dI) vwCl [] s := hK
  obtain rfl : r_3 = 1 := hw
  refine lv_if_ne (tgt := 40) hx hb d_O_make_35 (by decide) (fun _ => ?_) (fun h9 => absurd h9 (by decide +kernel))
  refine lv_aload_n hx hb d_O_make_40 rfl (lv_at hl 0 rfl) ?_
  refine lv_dup hx hb d_O_make_41 rfl ?_
  refine va_get (D := (dC, dI)) (ci := 7) (v := .int 0) (C := R_O) (T := F_O) (N := 27) hx hb hw0 in_O hown hK hP 0 rfl rfl 5 (by decide) (hw0 (.fieldLink R_O 76 "TextKeeperModel" "documents" "I") (List.mem_of_getElem? (i := 169) rfl)) (fun _ h9 => h9) rfl d_O_make_42 ?_
  refine lv_iconst (v := 1) hx hb d_O_make_45 (by decide) ?_
  refine lv_iadd hx hb d_O_make_46 ?_
  refine lv_topi (fun x_5 ex_5 => ?_)
  obtain rfl : x_5 = 1 := ex_5.trans (by decide +kernel)
  clear ex_5
  refine va_put (D := (dC, dI)) (ci := 7) (v := .int 1) (ty := .int) (C := R_O) (T := F_O) (N := 27) hx hb hw0 in_O ft_O tk_O nk_O hown hK hP hD hS 0 rfl rfl 5 (by decide) (hw0 (.fieldLink R_O 76 "TextKeeperModel" "documents" "I") (List.mem_of_getElem? (i := 169) rfl)) (fun _ h9 => h9) rfl (by decide +kernel) rfl rfl (Nat.le_of_ble_eq_true rfl) d_O_make_47 (fun H locs hP hD hS => ?_)
  replace hP : va_P (dC, dI) vwCl [(h0, .inr (7, [.int 0, .int 0, .int (-1), v_buffer, .int i_size, .int 1, v_gone, v_first, v_many, v_lengths, v_authors, v_sums, v_row, v_made, .int i_madeSize, v_base, .int i_baseSize, v_text, .int i_textSize, .int i_textSteps, v_other, .int i_otherSize, v_piece, .int i_pieceSize, .int i_at, .int i_end, .int i_value]))] H := hP
  replace hD : va_D A [(h0, .inr (7, [.int 0, .int 0, .int (-1), v_buffer, .int i_size, .int 1, v_gone, v_first, v_many, v_lengths, v_authors, v_sums, v_row, v_made, .int i_madeSize, v_base, .int i_baseSize, v_text, .int i_textSize, .int i_textSteps, v_other, .int i_otherSize, v_piece, .int i_pieceSize, .int i_at, .int i_end, .int i_value]))] := hD
  refine lv_aload_n hx hb d_O_make_50 rfl (lv_at hl 0 rfl) ?_
  refine va_get (D := (dC, dI)) (ci := 7) (v := .int 1) (C := R_O) (T := F_O) (N := 27) hx hb hw0 in_O hown hK hP 0 rfl rfl 5 (by decide) (hw0 (.fieldLink R_O 76 "TextKeeperModel" "documents" "I") (List.mem_of_getElem? (i := 169) rfl)) (fun _ h9 => h9) rfl d_O_make_51 ?_
  refine lv_iconst (v := 1) hx hb d_O_make_54 (by decide) ?_
  refine lv_isub hx hb d_O_make_55 ?_
  refine lv_topi (fun x_6 ex_6 => ?_)
  obtain rfl : x_6 = 0 := ex_6.trans (by decide +kernel)
  clear ex_6
  have hP9 := hP.sub (ws' := [(h0, .inr (7, [.int 0, .int 0, .int (-1), v_buffer, .int i_size, .int 1, v_gone, v_first, v_many, v_lengths, v_authors, v_sums, v_row, v_made, .int i_madeSize, v_base, .int i_baseSize, v_text, .int i_textSize, .int i_textSteps, v_other, .int i_otherSize, v_piece, .int i_pieceSize, .int i_at, .int i_end, .int i_value]))]) [0] rfl
  have hD9 := hD.sub (ws' := [(h0, .inr (7, [.int 0, .int 0, .int (-1), v_buffer, .int i_size, .int 1, v_gone, v_first, v_many, v_lengths, v_authors, v_sums, v_row, v_made, .int i_madeSize, v_base, .int i_baseSize, v_text, .int i_textSize, .int i_textSteps, v_other, .int i_otherSize, v_piece, .int i_pieceSize, .int i_at, .int i_end, .int i_value]))]) [0] (by decide) rfl
  have hK9 := hK.sub (tys' := []) [] rfl
  exact W.iret (v := 0) hx hb hr (fun t ht hW => ⟨⟨0, (), rfl, rfl, by rw [ht]; exact hP9, va_K.moved hW.alike hK9, hD9⟩, hS.F ht⟩) hS.2.2 d_O_make_56
set_option maxHeartbeats 4000000 in
set_option maxRecDepth 100000 in
theorem m_commit (l : Launch) (dC : Nat → ClassId) (dI : Nat → Nat → Nat) (sz : Nat) (h0 : Nat) (i_thrown : Int32) (i_lasts : Int32) (v_buffer : Value) (i_size : Int32) (v_gone : Value) (v_first : Value) (v_many : Value) (v_lengths : Value) (v_authors : Value) (v_sums : Value) (v_row : Value) (v_made : Value) (i_madeSize : Int32) (v_base : Value) (i_baseSize : Int32) (v_text : Value) (i_textSize : Int32) (i_textSteps : Int32) (v_other : Value) (i_otherSize : Int32) (v_piece : Value) (i_pieceSize : Int32) (i_at : Int32) (i_end : Int32) (i_value : Int32) (a1 : Int32) (a2 : Int32)  : Met l y_O_commit k_O_commit ({ frames := 1, cells := 0, slots := 0, locals := 21 } : Room) (va_Pc [.ref h0, .int a1, .int a2] (pc_E (dC, dI) [(h0, .inr (7, [.int i_thrown, .int 0, .int i_lasts, v_buffer, .int i_size, .int 0, v_gone, v_first, v_many, v_lengths, v_authors, v_sums, v_row, v_made, .int i_madeSize, v_base, .int i_baseSize, v_text, .int i_textSize, .int i_textSteps, v_other, .int i_otherSize, v_piece, .int i_pieceSize, .int i_at, .int i_end, .int i_value]))] [] sz)) (va_Qi (fun (r : Int32) (_ : Unit) => r = (-1)) (fun (_ : Unit) t => at_E (dC, dI) (va_A [(h0, .inr (7, [.int i_thrown, .int 0, .int i_lasts, v_buffer, .int i_size, .int 0, v_gone, v_first, v_many, v_lengths, v_authors, v_sums, v_row, v_made, .int i_madeSize, v_base, .int i_baseSize, v_text, .int i_textSize, .int i_textSteps, v_other, .int i_otherSize, v_piece, .int i_pieceSize, .int i_at, .int i_end, .int i_value]))] sz) [(h0, .inr (7, [.int 0, .int 0, .int i_lasts, v_buffer, .int i_size, .int 0, v_gone, v_first, v_many, v_lengths, v_authors, v_sums, v_row, v_made, .int i_madeSize, v_base, .int i_baseSize, v_text, .int i_textSize, .int i_textSteps, v_other, .int i_otherSize, v_piece, .int i_pieceSize, .int i_at, .int i_end, .int i_value]))] [] t) (va_A [(h0, .inr (7, [.int i_thrown, .int 0, .int i_lasts, v_buffer, .int i_size, .int 0, v_gone, v_first, v_many, v_lengths, v_authors, v_sums, v_row, v_made, .int i_madeSize, v_base, .int i_baseSize, v_text, .int i_textSize, .int i_textSteps, v_other, .int i_otherSize, v_piece, .int i_pieceSize, .int i_at, .int i_end, .int i_value]))] sz)) 0 0 (va_A [(h0, .inr (7, [.int i_thrown, .int 0, .int i_lasts, v_buffer, .int i_size, .int 0, v_gone, v_first, v_many, v_lengths, v_authors, v_sums, v_row, v_made, .int i_madeSize, v_base, .int i_baseSize, v_text, .int i_textSize, .int i_textSteps, v_other, .int i_otherSize, v_piece, .int i_pieceSize, .int i_at, .int i_end, .int i_value]))] sz) := by
  refine Met.ofW (cc := prog_9_method_27_code) (maxL := 7) (ret := (some .int)) (by decide) rfl ?_
  intro p e s m args below meth c s₁ B hml hv
  obtain ⟨rfl, hsz, hP, hK, hD0, hN⟩ := hv
  have hx := B.exec
  have hb := B.bytes
  have hr := B.returns
  have hts := atoms_spec (ws := k_O_commit) B.pre
  have hw0 : ∀ w ∈ w0, w.before _ s = true := fun w h => hts w (List.mem_cons_of_mem _ h)
  have hown : s.vm.findClass R_O = some m.cls := findClass_of_methodNamed B.named
  have hlocks := B.notSynchronized
  subst hsz
  have hD := hD0.self (sz := s.heap.size)
  generalize hAe : va_A [(h0, .inr (7, [.int i_thrown, .int 0, .int i_lasts, v_buffer, .int i_size, .int 0, v_gone, v_first, v_many, v_lengths, v_authors, v_sums, v_row, v_made, .int i_madeSize, v_base, .int i_baseSize, v_text, .int i_textSize, .int i_textSteps, v_other, .int i_otherSize, v_piece, .int i_pieceSize, .int i_at, .int i_end, .int i_value]))] s.heap.size = A at hD ⊢
  have hA : ∀ q : Nat, s.heap.size ≤ q → A q := fun q h => by rw [← hAe]; exact Or.inr h
  have hS : va_S A s.heap s.heap [] := va_S.rf
  have hP : va_P (dC, dI) vwCl [(h0, .inr (7, [.int i_thrown, .int 0, .int i_lasts, v_buffer, .int i_size, .int 0, v_gone, v_first, v_many, v_lengths, v_authors, v_sums, v_row, v_made, .int i_madeSize, v_base, .int i_baseSize, v_text, .int i_textSize, .int i_textSteps, v_other, .int i_otherSize, v_piece, .int i_pieceSize, .int i_at, .int i_end, .int i_value]))] s.heap := hP
  have hl := lv_entry ([.ref h0, .int a1, .int a2]) (n := 7) (Nat.le_of_ble_eq_true rfl)
  rw [lg_entry_eq]
  generalize (lg_sl ([.ref h0, .int a1, .int a2]) ++ List.replicate (7 - (lg_sl ([.ref h0, .int a1, .int a2])).length) Slot.unset).toArray = ls at hl ⊢
  have hl : lv_has ls 7 [(0, .ref h0), (1, .int a1), (2, .int a2)] := hl
  refine lv_aload_n hx hb d_O_commit_0 rfl (lv_at hl 0 rfl) ?_
  refine lv_iconst (v := 1) hx hb d_O_commit_1 (by decide) ?_
  have hPc := hP.sub (ws' := [(h0, .inr (7, [.int i_thrown, .int 0, .int i_lasts, v_buffer, .int i_size, .int 0, v_gone, v_first, v_many, v_lengths, v_authors, v_sums, v_row, v_made, .int i_madeSize, v_base, .int i_baseSize, v_text, .int i_textSize, .int i_textSteps, v_other, .int i_otherSize, v_piece, .int i_pieceSize, .int i_at, .int i_end, .int i_value]))]) [0] rfl
  have hKc := hK.sub (tys' := []) [] rfl
  have hDc := hD.sub (ws' := [(h0, .inr (7, [.int i_thrown, .int 0, .int i_lasts, v_buffer, .int i_size, .int 0, v_gone, v_first, v_many, v_lengths, v_authors, v_sums, v_row, v_made, .int i_madeSize, v_base, .int i_baseSize, v_text, .int i_textSize, .int i_textSteps, v_other, .int i_otherSize, v_piece, .int i_pieceSize, .int i_at, .int i_end, .int i_value]))]) [0] (by decide) rfl
  have hFc := va_free (wc := [(h0, .inr (7, [.int i_thrown, .int 0, .int i_lasts, v_buffer, .int i_size, .int 0, v_gone, v_first, v_many, v_lengths, v_authors, v_sums, v_row, v_made, .int i_madeSize, v_base, .int i_baseSize, v_text, .int i_textSize, .int i_textSteps, v_other, .int i_otherSize, v_piece, .int i_pieceSize, .int i_at, .int i_end, .int i_value]))]) hD hS hA [0] rfl
  refine va_calli (va_runV (As := [.int 1]) (rest := []) ⟨hx, hb, hml, hown, hw0⟩ (m_runs l dC dI s.heap.size h0 i_thrown i_lasts v_buffer i_size 0 v_gone v_first v_many v_lengths v_authors v_sums v_row v_made i_madeSize v_base i_baseSize v_text i_textSize i_textSteps v_other i_otherSize v_piece i_pieceSize i_at i_end i_value 1) (cwV 1 hw0 (gd_V 176 177 178 173 179 rfl rfl rfl rfl rfl) rfl rfl rfl (by decide +kernel) ⟨by decide +kernel, by decide +kernel⟩) (prV_E hPc hKc hDc hN (va_recv hKc hPc (ci := 7) (q0 := 0) rfl rfl)) rfl rfl hl.1 rfl (lv_room (Nat.le_of_ble_eq_true rfl)) d_O_commit_2 ⟨by decide +kernel, by decide +kernel⟩) hS (fun q _ h => hFc q h) hFc (fun r_1 u t H1 locs ht hvm hw hB hz1 hk1 hS => ?_)
  obtain ⟨hP1, hK1, hD1⟩ := hB
  rw [ht] at hP1
  have hK1 := va_K.moved hvm.symm hK1
  try dsimp only at hw
  obtain ⟨hP, hD⟩ := va_join (wr := []) (w1 := [(h0, .inr (7, [.int 0, .int 0, .int i_lasts, v_buffer, .int i_size, .int 0, v_gone, v_first, v_many, v_lengths, v_authors, v_sums, v_row, v_made, .int i_madeSize, v_base, .int i_baseSize, v_text, .int i_textSize, .int i_textSteps, v_other, .int i_otherSize, v_piece, .int i_pieceSize, .int i_at, .int i_end, .int i_value]))]) hP hD [0] [] rfl rfl (by decide) (by decide) hk1 hFc hP1 hD1
  generalize H1 = H at hP hS ⊢
  replace hP : va_P (dC, dI) vwCl [(h0, .inr (7, [.int 0, .int 0, .int i_lasts, v_buffer, .int i_size, .int 0, v_gone, v_first, v_many, v_lengths, v_authors, v_sums, v_row, v_made, .int i_madeSize, v_base, .int i_baseSize, v_text, .int i_textSize, .int i_textSteps, v_other, .int i_otherSize, v_piece, .int i_pieceSize, .int i_at, .int i_end, .int i_value]))] H := hP
  replace hD : va_D A [(h0, .inr (7, [.int 0, .int 0, .int i_lasts, v_buffer, .int i_size, .int 0, v_gone, v_first, v_many, v_lengths, v_authors, v_sums, v_row, v_made, .int i_madeSize, v_base, .int i_baseSize, v_text, .int i_textSize, .int i_textSteps, v_other, .int i_otherSize, v_piece, .int i_pieceSize, .int i_at, .int i_end, .int i_value]))] := hD
  replace hK : va_K (dC, dI) vwCl [] s := hK
  obtain rfl : r_1 = 1 := hw
  refine lv_if_eq (tgt := 27) hx hb d_O_commit_5 (by decide) (fun h9 => absurd h9 (by decide +kernel)) (fun _ => ?_)
  refine lv_aload_n hx hb d_O_commit_8 rfl (lv_at hl 0 rfl) ?_
  refine lv_iload_n hx hb d_O_commit_9 rfl (lv_at hl 1 rfl) ?_
  have hPc := hP.sub (ws' := [(h0, .inr (7, [.int 0, .int 0, .int i_lasts, v_buffer, .int i_size, .int 0, v_gone, v_first, v_many, v_lengths, v_authors, v_sums, v_row, v_made, .int i_madeSize, v_base, .int i_baseSize, v_text, .int i_textSize, .int i_textSteps, v_other, .int i_otherSize, v_piece, .int i_pieceSize, .int i_at, .int i_end, .int i_value]))]) [0] rfl
  have hKc := hK.sub (tys' := []) [] rfl
  refine ps_i (va_runV (As := [.int a1]) (rest := []) ⟨hx, hb, hml, hown, hw0⟩ (m_isDocument l dC dI h0 0 0 i_lasts v_buffer i_size v_gone v_first v_many v_lengths v_authors v_sums v_row v_made i_madeSize v_base i_baseSize v_text i_textSize i_textSteps v_other i_otherSize v_piece i_pieceSize i_at i_end i_value a1) (cwV 1 hw0 (gd_V 170 171 172 173 174 rfl rfl rfl rfl rfl) rfl rfl rfl (by decide +kernel) ⟨by decide +kernel, by decide +kernel⟩) (prV_R hPc hKc hN (va_recv hKc hPc (ci := 7) (q0 := 0) rfl rfl)) rfl rfl hl.1 rfl (lv_room (Nat.le_of_ble_eq_true rfl)) d_O_commit_10 ⟨by decide +kernel, by decide +kernel⟩) (fun r_3 hr_3 => ?_)
  obtain rfl : r_3 = 0 := hr_3
  refine lv_if_eq (tgt := 27) hx hb d_O_commit_13 (by decide) (fun _ => ?_) (fun h9 => absurd h9 (by decide +kernel))
  refine lv_aload_n hx hb d_O_commit_27 rfl (lv_at hl 0 rfl) ?_
  refine va_get (D := (dC, dI)) (ci := 7) (v := .int 0) (C := R_O) (T := F_O) (N := 27) hx hb hw0 in_O hown hK hP 0 rfl rfl 0 (by decide) (hw0 (.fieldLink R_O 62 "TextKeeperModel" "thrown" "I") (List.mem_of_getElem? (i := 168) rfl)) (fun _ h9 => h9) rfl d_O_commit_28 ?_
  refine lv_if_ne (tgt := 38) hx hb d_O_commit_31 (by decide) (fun h9 => absurd h9 (by decide +kernel)) (fun _ => ?_)
  refine lv_iconst (v := (-1)) hx hb d_O_commit_34 (by decide) ?_
  refine lv_goto (tgt := 39) hx hb d_O_commit_35 (by decide) ?_
  have hP9 := hP.sub (ws' := [(h0, .inr (7, [.int 0, .int 0, .int i_lasts, v_buffer, .int i_size, .int 0, v_gone, v_first, v_many, v_lengths, v_authors, v_sums, v_row, v_made, .int i_madeSize, v_base, .int i_baseSize, v_text, .int i_textSize, .int i_textSteps, v_other, .int i_otherSize, v_piece, .int i_pieceSize, .int i_at, .int i_end, .int i_value]))]) [0] rfl
  have hD9 := hD.sub (ws' := [(h0, .inr (7, [.int 0, .int 0, .int i_lasts, v_buffer, .int i_size, .int 0, v_gone, v_first, v_many, v_lengths, v_authors, v_sums, v_row, v_made, .int i_madeSize, v_base, .int i_baseSize, v_text, .int i_textSize, .int i_textSteps, v_other, .int i_otherSize, v_piece, .int i_pieceSize, .int i_at, .int i_end, .int i_value]))]) [0] (by decide) rfl
  have hK9 := hK.sub (tys' := []) [] rfl
  exact W.iret (v := (-1)) hx hb hr (fun t ht hW => ⟨⟨(-1), (), rfl, rfl, by rw [ht]; exact hP9, va_K.moved hW.alike hK9, hD9⟩, hS.F ht⟩) hS.2.2 d_O_commit_39
set_option maxHeartbeats 4000000 in
set_option maxRecDepth 100000 in
theorem m_fetch (l : Launch) (dC : Nat → ClassId) (dI : Nat → Nat → Nat) (sz : Nat) (h0 : Nat) (i_thrown : Int32) (i_lasts : Int32) (v_buffer : Value) (i_size : Int32) (v_gone : Value) (v_first : Value) (v_many : Value) (v_lengths : Value) (v_authors : Value) (v_sums : Value) (v_row : Value) (v_made : Value) (i_madeSize : Int32) (v_base : Value) (i_baseSize : Int32) (v_text : Value) (i_textSize : Int32) (i_textSteps : Int32) (v_other : Value) (i_otherSize : Int32) (v_piece : Value) (i_pieceSize : Int32) (i_at : Int32) (i_end : Int32) (i_value : Int32) (a1 : Int32) (a2 : Int32)  : Met l y_O_fetch k_O_fetch ({ frames := 2, cells := 0, slots := 0, locals := 43 } : Room) (va_Pc [.ref h0, .int a1, .int a2] (pc_E (dC, dI) [(h0, .inr (7, [.int i_thrown, .int 0, .int i_lasts, v_buffer, .int i_size, .int 0, v_gone, v_first, v_many, v_lengths, v_authors, v_sums, v_row, v_made, .int i_madeSize, v_base, .int i_baseSize, v_text, .int i_textSize, .int i_textSteps, v_other, .int i_otherSize, v_piece, .int i_pieceSize, .int i_at, .int i_end, .int i_value]))] [] sz)) (va_Qi (fun (r : Int32) (_ : Unit) => r = (-1)) (fun (_ : Unit) t => at_E (dC, dI) (va_A [(h0, .inr (7, [.int i_thrown, .int 0, .int i_lasts, v_buffer, .int i_size, .int 0, v_gone, v_first, v_many, v_lengths, v_authors, v_sums, v_row, v_made, .int i_madeSize, v_base, .int i_baseSize, v_text, .int i_textSize, .int i_textSteps, v_other, .int i_otherSize, v_piece, .int i_pieceSize, .int i_at, .int i_end, .int i_value]))] sz) [(h0, .inr (7, [.int 0, .int 0, .int i_lasts, v_buffer, .int i_size, .int 0, v_gone, v_first, v_many, v_lengths, v_authors, v_sums, v_row, v_made, .int i_madeSize, v_base, .int i_baseSize, v_text, .int i_textSize, .int i_textSteps, v_other, .int i_otherSize, v_piece, .int i_pieceSize, .int i_at, .int i_end, .int i_value]))] [] t) (va_A [(h0, .inr (7, [.int i_thrown, .int 0, .int i_lasts, v_buffer, .int i_size, .int 0, v_gone, v_first, v_many, v_lengths, v_authors, v_sums, v_row, v_made, .int i_madeSize, v_base, .int i_baseSize, v_text, .int i_textSize, .int i_textSteps, v_other, .int i_otherSize, v_piece, .int i_pieceSize, .int i_at, .int i_end, .int i_value]))] sz)) 0 0 (va_A [(h0, .inr (7, [.int i_thrown, .int 0, .int i_lasts, v_buffer, .int i_size, .int 0, v_gone, v_first, v_many, v_lengths, v_authors, v_sums, v_row, v_made, .int i_madeSize, v_base, .int i_baseSize, v_text, .int i_textSize, .int i_textSteps, v_other, .int i_otherSize, v_piece, .int i_pieceSize, .int i_at, .int i_end, .int i_value]))] sz) := by
  refine Met.ofW (cc := prog_9_method_28_code) (maxL := 4) (ret := (some .int)) (by decide) rfl ?_
  intro p e s m args below meth c s₁ B hml hv
  obtain ⟨rfl, hsz, hP, hK, hD0, hN⟩ := hv
  have hx := B.exec
  have hb := B.bytes
  have hr := B.returns
  have hts := atoms_spec (ws := k_O_fetch) B.pre
  have hw0 : ∀ w ∈ w0, w.before _ s = true := fun w h => hts w (List.mem_cons_of_mem _ h)
  have hown : s.vm.findClass R_O = some m.cls := findClass_of_methodNamed B.named
  have hlocks := B.notSynchronized
  subst hsz
  have hD := hD0.self (sz := s.heap.size)
  generalize hAe : va_A [(h0, .inr (7, [.int i_thrown, .int 0, .int i_lasts, v_buffer, .int i_size, .int 0, v_gone, v_first, v_many, v_lengths, v_authors, v_sums, v_row, v_made, .int i_madeSize, v_base, .int i_baseSize, v_text, .int i_textSize, .int i_textSteps, v_other, .int i_otherSize, v_piece, .int i_pieceSize, .int i_at, .int i_end, .int i_value]))] s.heap.size = A at hD ⊢
  have hA : ∀ q : Nat, s.heap.size ≤ q → A q := fun q h => by rw [← hAe]; exact Or.inr h
  have hS : va_S A s.heap s.heap [] := va_S.rf
  have hP : va_P (dC, dI) vwCl [(h0, .inr (7, [.int i_thrown, .int 0, .int i_lasts, v_buffer, .int i_size, .int 0, v_gone, v_first, v_many, v_lengths, v_authors, v_sums, v_row, v_made, .int i_madeSize, v_base, .int i_baseSize, v_text, .int i_textSize, .int i_textSteps, v_other, .int i_otherSize, v_piece, .int i_pieceSize, .int i_at, .int i_end, .int i_value]))] s.heap := hP
  have hl := lv_entry ([.ref h0, .int a1, .int a2]) (n := 4) (Nat.le_of_ble_eq_true rfl)
  rw [lg_entry_eq]
  generalize (lg_sl ([.ref h0, .int a1, .int a2]) ++ List.replicate (4 - (lg_sl ([.ref h0, .int a1, .int a2])).length) Slot.unset).toArray = ls at hl ⊢
  have hl : lv_has ls 4 [(0, .ref h0), (1, .int a1), (2, .int a2)] := hl
  refine lv_aload_n hx hb d_O_fetch_0 rfl (lv_at hl 0 rfl) ?_
  refine lv_iconst (v := 1) hx hb d_O_fetch_1 (by decide) ?_
  have hPc := hP.sub (ws' := [(h0, .inr (7, [.int i_thrown, .int 0, .int i_lasts, v_buffer, .int i_size, .int 0, v_gone, v_first, v_many, v_lengths, v_authors, v_sums, v_row, v_made, .int i_madeSize, v_base, .int i_baseSize, v_text, .int i_textSize, .int i_textSteps, v_other, .int i_otherSize, v_piece, .int i_pieceSize, .int i_at, .int i_end, .int i_value]))]) [0] rfl
  have hKc := hK.sub (tys' := []) [] rfl
  have hDc := hD.sub (ws' := [(h0, .inr (7, [.int i_thrown, .int 0, .int i_lasts, v_buffer, .int i_size, .int 0, v_gone, v_first, v_many, v_lengths, v_authors, v_sums, v_row, v_made, .int i_madeSize, v_base, .int i_baseSize, v_text, .int i_textSize, .int i_textSteps, v_other, .int i_otherSize, v_piece, .int i_pieceSize, .int i_at, .int i_end, .int i_value]))]) [0] (by decide) rfl
  have hFc := va_free (wc := [(h0, .inr (7, [.int i_thrown, .int 0, .int i_lasts, v_buffer, .int i_size, .int 0, v_gone, v_first, v_many, v_lengths, v_authors, v_sums, v_row, v_made, .int i_madeSize, v_base, .int i_baseSize, v_text, .int i_textSize, .int i_textSteps, v_other, .int i_otherSize, v_piece, .int i_pieceSize, .int i_at, .int i_end, .int i_value]))]) hD hS hA [0] rfl
  refine va_calli (va_runV (As := [.int 1]) (rest := []) ⟨hx, hb, hml, hown, hw0⟩ (m_runs l dC dI s.heap.size h0 i_thrown i_lasts v_buffer i_size 0 v_gone v_first v_many v_lengths v_authors v_sums v_row v_made i_madeSize v_base i_baseSize v_text i_textSize i_textSteps v_other i_otherSize v_piece i_pieceSize i_at i_end i_value 1) (cwV 1 hw0 (gd_V 176 177 178 173 179 rfl rfl rfl rfl rfl) rfl rfl rfl (by decide +kernel) ⟨by decide +kernel, by decide +kernel⟩) (prV_E hPc hKc hDc hN (va_recv hKc hPc (ci := 7) (q0 := 0) rfl rfl)) rfl rfl hl.1 rfl (lv_room (Nat.le_of_ble_eq_true rfl)) d_O_fetch_2 ⟨by decide +kernel, by decide +kernel⟩) hS (fun q _ h => hFc q h) hFc (fun r_1 u t H1 locs ht hvm hw hB hz1 hk1 hS => ?_)
  obtain ⟨hP1, hK1, hD1⟩ := hB
  rw [ht] at hP1
  have hK1 := va_K.moved hvm.symm hK1
  try dsimp only at hw
  obtain ⟨hP, hD⟩ := va_join (wr := []) (w1 := [(h0, .inr (7, [.int 0, .int 0, .int i_lasts, v_buffer, .int i_size, .int 0, v_gone, v_first, v_many, v_lengths, v_authors, v_sums, v_row, v_made, .int i_madeSize, v_base, .int i_baseSize, v_text, .int i_textSize, .int i_textSteps, v_other, .int i_otherSize, v_piece, .int i_pieceSize, .int i_at, .int i_end, .int i_value]))]) hP hD [0] [] rfl rfl (by decide) (by decide) hk1 hFc hP1 hD1
  generalize H1 = H at hP hS ⊢
  replace hP : va_P (dC, dI) vwCl [(h0, .inr (7, [.int 0, .int 0, .int i_lasts, v_buffer, .int i_size, .int 0, v_gone, v_first, v_many, v_lengths, v_authors, v_sums, v_row, v_made, .int i_madeSize, v_base, .int i_baseSize, v_text, .int i_textSize, .int i_textSteps, v_other, .int i_otherSize, v_piece, .int i_pieceSize, .int i_at, .int i_end, .int i_value]))] H := hP
  replace hD : va_D A [(h0, .inr (7, [.int 0, .int 0, .int i_lasts, v_buffer, .int i_size, .int 0, v_gone, v_first, v_many, v_lengths, v_authors, v_sums, v_row, v_made, .int i_madeSize, v_base, .int i_baseSize, v_text, .int i_textSize, .int i_textSteps, v_other, .int i_otherSize, v_piece, .int i_pieceSize, .int i_at, .int i_end, .int i_value]))] := hD
  replace hK : va_K (dC, dI) vwCl [] s := hK
  obtain rfl : r_1 = 1 := hw
  refine lv_if_eq (tgt := 17) hx hb d_O_fetch_5 (by decide) (fun h9 => absurd h9 (by decide +kernel)) (fun _ => ?_)
  refine lv_aload_n hx hb d_O_fetch_8 rfl (lv_at hl 0 rfl) ?_
  refine lv_iload_n hx hb d_O_fetch_9 rfl (lv_at hl 1 rfl) ?_
  refine lv_iload_n hx hb d_O_fetch_10 rfl (lv_at hl 2 rfl) ?_
  have hPc := hP.sub (ws' := [(h0, .inr (7, [.int 0, .int 0, .int i_lasts, v_buffer, .int i_size, .int 0, v_gone, v_first, v_many, v_lengths, v_authors, v_sums, v_row, v_made, .int i_madeSize, v_base, .int i_baseSize, v_text, .int i_textSize, .int i_textSteps, v_other, .int i_otherSize, v_piece, .int i_pieceSize, .int i_at, .int i_end, .int i_value]))]) [0] rfl
  have hKc := hK.sub (tys' := []) [] rfl
  refine ps_i (va_runV (As := [.int a1, .int a2]) (rest := []) ⟨hx, hb, hml, hown, hw0⟩ (m_isAsked l dC dI h0 0 0 i_lasts v_buffer i_size v_gone v_first v_many v_lengths v_authors v_sums v_row v_made i_madeSize v_base i_baseSize v_text i_textSize i_textSteps v_other i_otherSize v_piece i_pieceSize i_at i_end i_value a1 a2) (cwV 2 hw0 (gd_V 184 185 186 173 187 rfl rfl rfl rfl rfl) rfl rfl rfl (by decide +kernel) ⟨by decide +kernel, by decide +kernel⟩) (prV_R hPc hKc hN (va_recv hKc hPc (ci := 7) (q0 := 0) rfl rfl)) rfl rfl hl.1 rfl (lv_room (Nat.le_of_ble_eq_true rfl)) d_O_fetch_11 ⟨by decide +kernel, by decide +kernel⟩) (fun r_3 hr_3 => ?_)
  obtain rfl : r_3 = 0 := hr_3
  refine lv_if_ne (tgt := 30) hx hb d_O_fetch_14 (by decide) (fun h9 => absurd h9 (by decide +kernel)) (fun _ => ?_)
  refine lv_aload_n hx hb d_O_fetch_17 rfl (lv_at hl 0 rfl) ?_
  refine va_get (D := (dC, dI)) (ci := 7) (v := .int 0) (C := R_O) (T := F_O) (N := 27) hx hb hw0 in_O hown hK hP 0 rfl rfl 0 (by decide) (hw0 (.fieldLink R_O 62 "TextKeeperModel" "thrown" "I") (List.mem_of_getElem? (i := 168) rfl)) (fun _ h9 => h9) rfl d_O_fetch_18 ?_
  refine lv_if_ne (tgt := 28) hx hb d_O_fetch_21 (by decide) (fun h9 => absurd h9 (by decide +kernel)) (fun _ => ?_)
  refine lv_iconst (v := (-1)) hx hb d_O_fetch_24 (by decide) ?_
  refine lv_goto (tgt := 29) hx hb d_O_fetch_25 (by decide) ?_
  have hP9 := hP.sub (ws' := [(h0, .inr (7, [.int 0, .int 0, .int i_lasts, v_buffer, .int i_size, .int 0, v_gone, v_first, v_many, v_lengths, v_authors, v_sums, v_row, v_made, .int i_madeSize, v_base, .int i_baseSize, v_text, .int i_textSize, .int i_textSteps, v_other, .int i_otherSize, v_piece, .int i_pieceSize, .int i_at, .int i_end, .int i_value]))]) [0] rfl
  have hD9 := hD.sub (ws' := [(h0, .inr (7, [.int 0, .int 0, .int i_lasts, v_buffer, .int i_size, .int 0, v_gone, v_first, v_many, v_lengths, v_authors, v_sums, v_row, v_made, .int i_madeSize, v_base, .int i_baseSize, v_text, .int i_textSize, .int i_textSteps, v_other, .int i_otherSize, v_piece, .int i_pieceSize, .int i_at, .int i_end, .int i_value]))]) [0] (by decide) rfl
  have hK9 := hK.sub (tys' := []) [] rfl
  exact W.iret (v := (-1)) hx hb hr (fun t ht hW => ⟨⟨(-1), (), rfl, rfl, by rw [ht]; exact hP9, va_K.moved hW.alike hK9, hD9⟩, hS.F ht⟩) hS.2.2 d_O_fetch_29
set_option maxHeartbeats 4000000 in
set_option maxRecDepth 100000 in
theorem m_trim (l : Launch) (dC : Nat → ClassId) (dI : Nat → Nat → Nat) (sz : Nat) (h0 : Nat) (i_thrown : Int32) (i_lasts : Int32) (v_buffer : Value) (i_size : Int32) (v_gone : Value) (v_first : Value) (v_many : Value) (v_lengths : Value) (v_authors : Value) (v_sums : Value) (v_row : Value) (v_made : Value) (i_madeSize : Int32) (v_base : Value) (i_baseSize : Int32) (v_text : Value) (i_textSize : Int32) (i_textSteps : Int32) (v_other : Value) (i_otherSize : Int32) (v_piece : Value) (i_pieceSize : Int32) (i_at : Int32) (i_end : Int32) (i_value : Int32) (a1 : Int32) (a2 : Int32)  : Met l y_O_trim k_O_trim ({ frames := 2, cells := 0, slots := 0, locals := 43 } : Room) (va_Pc [.ref h0, .int a1, .int a2] (pc_E (dC, dI) [(h0, .inr (7, [.int i_thrown, .int 0, .int i_lasts, v_buffer, .int i_size, .int 0, v_gone, v_first, v_many, v_lengths, v_authors, v_sums, v_row, v_made, .int i_madeSize, v_base, .int i_baseSize, v_text, .int i_textSize, .int i_textSteps, v_other, .int i_otherSize, v_piece, .int i_pieceSize, .int i_at, .int i_end, .int i_value]))] [] sz)) (va_Qi (fun (r : Int32) (_ : Unit) => r = 0) (fun (_ : Unit) t => at_E (dC, dI) (va_A [(h0, .inr (7, [.int i_thrown, .int 0, .int i_lasts, v_buffer, .int i_size, .int 0, v_gone, v_first, v_many, v_lengths, v_authors, v_sums, v_row, v_made, .int i_madeSize, v_base, .int i_baseSize, v_text, .int i_textSize, .int i_textSteps, v_other, .int i_otherSize, v_piece, .int i_pieceSize, .int i_at, .int i_end, .int i_value]))] sz) [(h0, .inr (7, [.int 0, .int 0, .int i_lasts, v_buffer, .int i_size, .int 0, v_gone, v_first, v_many, v_lengths, v_authors, v_sums, v_row, v_made, .int i_madeSize, v_base, .int i_baseSize, v_text, .int i_textSize, .int i_textSteps, v_other, .int i_otherSize, v_piece, .int i_pieceSize, .int i_at, .int i_end, .int i_value]))] [] t) (va_A [(h0, .inr (7, [.int i_thrown, .int 0, .int i_lasts, v_buffer, .int i_size, .int 0, v_gone, v_first, v_many, v_lengths, v_authors, v_sums, v_row, v_made, .int i_madeSize, v_base, .int i_baseSize, v_text, .int i_textSize, .int i_textSteps, v_other, .int i_otherSize, v_piece, .int i_pieceSize, .int i_at, .int i_end, .int i_value]))] sz)) 0 0 (va_A [(h0, .inr (7, [.int i_thrown, .int 0, .int i_lasts, v_buffer, .int i_size, .int 0, v_gone, v_first, v_many, v_lengths, v_authors, v_sums, v_row, v_made, .int i_madeSize, v_base, .int i_baseSize, v_text, .int i_textSize, .int i_textSteps, v_other, .int i_otherSize, v_piece, .int i_pieceSize, .int i_at, .int i_end, .int i_value]))] sz) := by
  refine Met.ofW (cc := prog_9_method_31_code) (maxL := 3) (ret := (some .boolean)) (by decide) rfl ?_
  intro p e s m args below meth c s₁ B hml hv
  obtain ⟨rfl, hsz, hP, hK, hD0, hN⟩ := hv
  have hx := B.exec
  have hb := B.bytes
  have hr := B.returns
  have hts := atoms_spec (ws := k_O_trim) B.pre
  have hw0 : ∀ w ∈ w0, w.before _ s = true := fun w h => hts w (List.mem_cons_of_mem _ h)
  have hown : s.vm.findClass R_O = some m.cls := findClass_of_methodNamed B.named
  have hlocks := B.notSynchronized
  subst hsz
  have hD := hD0.self (sz := s.heap.size)
  generalize hAe : va_A [(h0, .inr (7, [.int i_thrown, .int 0, .int i_lasts, v_buffer, .int i_size, .int 0, v_gone, v_first, v_many, v_lengths, v_authors, v_sums, v_row, v_made, .int i_madeSize, v_base, .int i_baseSize, v_text, .int i_textSize, .int i_textSteps, v_other, .int i_otherSize, v_piece, .int i_pieceSize, .int i_at, .int i_end, .int i_value]))] s.heap.size = A at hD ⊢
  have hA : ∀ q : Nat, s.heap.size ≤ q → A q := fun q h => by rw [← hAe]; exact Or.inr h
  have hS : va_S A s.heap s.heap [] := va_S.rf
  have hP : va_P (dC, dI) vwCl [(h0, .inr (7, [.int i_thrown, .int 0, .int i_lasts, v_buffer, .int i_size, .int 0, v_gone, v_first, v_many, v_lengths, v_authors, v_sums, v_row, v_made, .int i_madeSize, v_base, .int i_baseSize, v_text, .int i_textSize, .int i_textSteps, v_other, .int i_otherSize, v_piece, .int i_pieceSize, .int i_at, .int i_end, .int i_value]))] s.heap := hP
  have hl := lv_entry ([.ref h0, .int a1, .int a2]) (n := 3) (Nat.le_of_ble_eq_true rfl)
  rw [lg_entry_eq]
  generalize (lg_sl ([.ref h0, .int a1, .int a2]) ++ List.replicate (3 - (lg_sl ([.ref h0, .int a1, .int a2])).length) Slot.unset).toArray = ls at hl ⊢
  have hl : lv_has ls 3 [(0, .ref h0), (1, .int a1), (2, .int a2)] := hl
  refine lv_aload_n hx hb d_O_trim_0 rfl (lv_at hl 0 rfl) ?_
  refine lv_iconst (v := 1) hx hb d_O_trim_1 (by decide) ?_
  have hPc := hP.sub (ws' := [(h0, .inr (7, [.int i_thrown, .int 0, .int i_lasts, v_buffer, .int i_size, .int 0, v_gone, v_first, v_many, v_lengths, v_authors, v_sums, v_row, v_made, .int i_madeSize, v_base, .int i_baseSize, v_text, .int i_textSize, .int i_textSteps, v_other, .int i_otherSize, v_piece, .int i_pieceSize, .int i_at, .int i_end, .int i_value]))]) [0] rfl
  have hKc := hK.sub (tys' := []) [] rfl
  have hDc := hD.sub (ws' := [(h0, .inr (7, [.int i_thrown, .int 0, .int i_lasts, v_buffer, .int i_size, .int 0, v_gone, v_first, v_many, v_lengths, v_authors, v_sums, v_row, v_made, .int i_madeSize, v_base, .int i_baseSize, v_text, .int i_textSize, .int i_textSteps, v_other, .int i_otherSize, v_piece, .int i_pieceSize, .int i_at, .int i_end, .int i_value]))]) [0] (by decide) rfl
  have hFc := va_free (wc := [(h0, .inr (7, [.int i_thrown, .int 0, .int i_lasts, v_buffer, .int i_size, .int 0, v_gone, v_first, v_many, v_lengths, v_authors, v_sums, v_row, v_made, .int i_madeSize, v_base, .int i_baseSize, v_text, .int i_textSize, .int i_textSteps, v_other, .int i_otherSize, v_piece, .int i_pieceSize, .int i_at, .int i_end, .int i_value]))]) hD hS hA [0] rfl
  refine va_calli (va_runV (As := [.int 1]) (rest := []) ⟨hx, hb, hml, hown, hw0⟩ (m_runs l dC dI s.heap.size h0 i_thrown i_lasts v_buffer i_size 0 v_gone v_first v_many v_lengths v_authors v_sums v_row v_made i_madeSize v_base i_baseSize v_text i_textSize i_textSteps v_other i_otherSize v_piece i_pieceSize i_at i_end i_value 1) (cwV 1 hw0 (gd_V 176 177 178 173 179 rfl rfl rfl rfl rfl) rfl rfl rfl (by decide +kernel) ⟨by decide +kernel, by decide +kernel⟩) (prV_E hPc hKc hDc hN (va_recv hKc hPc (ci := 7) (q0 := 0) rfl rfl)) rfl rfl hl.1 rfl (lv_room (Nat.le_of_ble_eq_true rfl)) d_O_trim_2 ⟨by decide +kernel, by decide +kernel⟩) hS (fun q _ h => hFc q h) hFc (fun r_1 u t H1 locs ht hvm hw hB hz1 hk1 hS => ?_)
  obtain ⟨hP1, hK1, hD1⟩ := hB
  rw [ht] at hP1
  have hK1 := va_K.moved hvm.symm hK1
  try dsimp only at hw
  obtain ⟨hP, hD⟩ := va_join (wr := []) (w1 := [(h0, .inr (7, [.int 0, .int 0, .int i_lasts, v_buffer, .int i_size, .int 0, v_gone, v_first, v_many, v_lengths, v_authors, v_sums, v_row, v_made, .int i_madeSize, v_base, .int i_baseSize, v_text, .int i_textSize, .int i_textSteps, v_other, .int i_otherSize, v_piece, .int i_pieceSize, .int i_at, .int i_end, .int i_value]))]) hP hD [0] [] rfl rfl (by decide) (by decide) hk1 hFc hP1 hD1
  generalize H1 = H at hP hS ⊢
  replace hP : va_P (dC, dI) vwCl [(h0, .inr (7, [.int 0, .int 0, .int i_lasts, v_buffer, .int i_size, .int 0, v_gone, v_first, v_many, v_lengths, v_authors, v_sums, v_row, v_made, .int i_madeSize, v_base, .int i_baseSize, v_text, .int i_textSize, .int i_textSteps, v_other, .int i_otherSize, v_piece, .int i_pieceSize, .int i_at, .int i_end, .int i_value]))] H := hP
  replace hD : va_D A [(h0, .inr (7, [.int 0, .int 0, .int i_lasts, v_buffer, .int i_size, .int 0, v_gone, v_first, v_many, v_lengths, v_authors, v_sums, v_row, v_made, .int i_madeSize, v_base, .int i_baseSize, v_text, .int i_textSize, .int i_textSteps, v_other, .int i_otherSize, v_piece, .int i_pieceSize, .int i_at, .int i_end, .int i_value]))] := hD
  replace hK : va_K (dC, dI) vwCl [] s := hK
  obtain rfl : r_1 = 1 := hw
  refine lv_if_eq (tgt := 25) hx hb d_O_trim_5 (by decide) (fun h9 => absurd h9 (by decide +kernel)) (fun _ => ?_)
  refine lv_aload_n hx hb d_O_trim_8 rfl (lv_at hl 0 rfl) ?_
  refine lv_iload_n hx hb d_O_trim_9 rfl (lv_at hl 1 rfl) ?_
  refine lv_iload_n hx hb d_O_trim_10 rfl (lv_at hl 2 rfl) ?_
  have hPc := hP.sub (ws' := [(h0, .inr (7, [.int 0, .int 0, .int i_lasts, v_buffer, .int i_size, .int 0, v_gone, v_first, v_many, v_lengths, v_authors, v_sums, v_row, v_made, .int i_madeSize, v_base, .int i_baseSize, v_text, .int i_textSize, .int i_textSteps, v_other, .int i_otherSize, v_piece, .int i_pieceSize, .int i_at, .int i_end, .int i_value]))]) [0] rfl
  have hKc := hK.sub (tys' := []) [] rfl
  refine ps_i (va_runV (As := [.int a1, .int a2]) (rest := []) ⟨hx, hb, hml, hown, hw0⟩ (m_isAsked l dC dI h0 0 0 i_lasts v_buffer i_size v_gone v_first v_many v_lengths v_authors v_sums v_row v_made i_madeSize v_base i_baseSize v_text i_textSize i_textSteps v_other i_otherSize v_piece i_pieceSize i_at i_end i_value a1 a2) (cwV 2 hw0 (gd_V 184 185 186 173 187 rfl rfl rfl rfl rfl) rfl rfl rfl (by decide +kernel) ⟨by decide +kernel, by decide +kernel⟩) (prV_R hPc hKc hN (va_recv hKc hPc (ci := 7) (q0 := 0) rfl rfl)) rfl rfl hl.1 rfl (lv_room (Nat.le_of_ble_eq_true rfl)) d_O_trim_11 ⟨by decide +kernel, by decide +kernel⟩) (fun r_3 hr_3 => ?_)
  obtain rfl : r_3 = 0 := hr_3
  refine lv_if_eq (tgt := 25) hx hb d_O_trim_14 (by decide) (fun _ => ?_) (fun h9 => absurd h9 (by decide +kernel))
  refine lv_iconst (v := 0) hx hb d_O_trim_25 (by decide) ?_
  have hP9 := hP.sub (ws' := [(h0, .inr (7, [.int 0, .int 0, .int i_lasts, v_buffer, .int i_size, .int 0, v_gone, v_first, v_many, v_lengths, v_authors, v_sums, v_row, v_made, .int i_madeSize, v_base, .int i_baseSize, v_text, .int i_textSize, .int i_textSteps, v_other, .int i_otherSize, v_piece, .int i_pieceSize, .int i_at, .int i_end, .int i_value]))]) [0] rfl
  have hD9 := hD.sub (ws' := [(h0, .inr (7, [.int 0, .int 0, .int i_lasts, v_buffer, .int i_size, .int 0, v_gone, v_first, v_many, v_lengths, v_authors, v_sums, v_row, v_made, .int i_madeSize, v_base, .int i_baseSize, v_text, .int i_textSize, .int i_textSteps, v_other, .int i_otherSize, v_piece, .int i_pieceSize, .int i_at, .int i_end, .int i_value]))]) [0] (by decide) rfl
  have hK9 := hK.sub (tys' := []) [] rfl
  exact W.zret (v := 0) (ty := .boolean) hx hb hr rfl (fun t ht hW => ⟨⟨0, (), rfl, rfl, by rw [ht]; exact hP9, va_K.moved hW.alike hK9, hD9⟩, hS.F ht⟩) hS.2.2 d_O_trim_26
set_option maxHeartbeats 4000000 in
set_option maxRecDepth 100000 in
theorem m_dropDocument (l : Launch) (dC : Nat → ClassId) (dI : Nat → Nat → Nat) (sz : Nat) (h0 : Nat) (i_thrown : Int32) (i_lasts : Int32) (v_buffer : Value) (i_size : Int32) (v_gone : Value) (v_first : Value) (v_many : Value) (v_lengths : Value) (v_authors : Value) (v_sums : Value) (v_row : Value) (v_made : Value) (i_madeSize : Int32) (v_base : Value) (i_baseSize : Int32) (v_text : Value) (i_textSize : Int32) (i_textSteps : Int32) (v_other : Value) (i_otherSize : Int32) (v_piece : Value) (i_pieceSize : Int32) (i_at : Int32) (i_end : Int32) (i_value : Int32) (a1 : Int32)  : Met l y_O_dropDocument k_O_dropDocument ({ frames := 1, cells := 0, slots := 0, locals := 21 } : Room) (va_Pc [.ref h0, .int a1] (pc_E (dC, dI) [(h0, .inr (7, [.int i_thrown, .int 0, .int i_lasts, v_buffer, .int i_size, .int 0, v_gone, v_first, v_many, v_lengths, v_authors, v_sums, v_row, v_made, .int i_madeSize, v_base, .int i_baseSize, v_text, .int i_textSize, .int i_textSteps, v_other, .int i_otherSize, v_piece, .int i_pieceSize, .int i_at, .int i_end, .int i_value]))] [] sz)) (va_Qi (fun (r : Int32) (_ : Unit) => r = 0) (fun (_ : Unit) t => at_E (dC, dI) (va_A [(h0, .inr (7, [.int i_thrown, .int 0, .int i_lasts, v_buffer, .int i_size, .int 0, v_gone, v_first, v_many, v_lengths, v_authors, v_sums, v_row, v_made, .int i_madeSize, v_base, .int i_baseSize, v_text, .int i_textSize, .int i_textSteps, v_other, .int i_otherSize, v_piece, .int i_pieceSize, .int i_at, .int i_end, .int i_value]))] sz) [(h0, .inr (7, [.int 0, .int 0, .int i_lasts, v_buffer, .int i_size, .int 0, v_gone, v_first, v_many, v_lengths, v_authors, v_sums, v_row, v_made, .int i_madeSize, v_base, .int i_baseSize, v_text, .int i_textSize, .int i_textSteps, v_other, .int i_otherSize, v_piece, .int i_pieceSize, .int i_at, .int i_end, .int i_value]))] [] t) (va_A [(h0, .inr (7, [.int i_thrown, .int 0, .int i_lasts, v_buffer, .int i_size, .int 0, v_gone, v_first, v_many, v_lengths, v_authors, v_sums, v_row, v_made, .int i_madeSize, v_base, .int i_baseSize, v_text, .int i_textSize, .int i_textSteps, v_other, .int i_otherSize, v_piece, .int i_pieceSize, .int i_at, .int i_end, .int i_value]))] sz)) 0 0 (va_A [(h0, .inr (7, [.int i_thrown, .int 0, .int i_lasts, v_buffer, .int i_size, .int 0, v_gone, v_first, v_many, v_lengths, v_authors, v_sums, v_row, v_made, .int i_madeSize, v_base, .int i_baseSize, v_text, .int i_textSize, .int i_textSteps, v_other, .int i_otherSize, v_piece, .int i_pieceSize, .int i_at, .int i_end, .int i_value]))] sz) := by
  refine Met.ofW (cc := prog_9_method_32_code) (maxL := 2) (ret := (some .boolean)) (by decide) rfl ?_
  intro p e s m args below meth c s₁ B hml hv
  obtain ⟨rfl, hsz, hP, hK, hD0, hN⟩ := hv
  have hx := B.exec
  have hb := B.bytes
  have hr := B.returns
  have hts := atoms_spec (ws := k_O_dropDocument) B.pre
  have hw0 : ∀ w ∈ w0, w.before _ s = true := fun w h => hts w (List.mem_cons_of_mem _ h)
  have hown : s.vm.findClass R_O = some m.cls := findClass_of_methodNamed B.named
  have hlocks := B.notSynchronized
  subst hsz
  have hD := hD0.self (sz := s.heap.size)
  generalize hAe : va_A [(h0, .inr (7, [.int i_thrown, .int 0, .int i_lasts, v_buffer, .int i_size, .int 0, v_gone, v_first, v_many, v_lengths, v_authors, v_sums, v_row, v_made, .int i_madeSize, v_base, .int i_baseSize, v_text, .int i_textSize, .int i_textSteps, v_other, .int i_otherSize, v_piece, .int i_pieceSize, .int i_at, .int i_end, .int i_value]))] s.heap.size = A at hD ⊢
  have hA : ∀ q : Nat, s.heap.size ≤ q → A q := fun q h => by rw [← hAe]; exact Or.inr h
  have hS : va_S A s.heap s.heap [] := va_S.rf
  have hP : va_P (dC, dI) vwCl [(h0, .inr (7, [.int i_thrown, .int 0, .int i_lasts, v_buffer, .int i_size, .int 0, v_gone, v_first, v_many, v_lengths, v_authors, v_sums, v_row, v_made, .int i_madeSize, v_base, .int i_baseSize, v_text, .int i_textSize, .int i_textSteps, v_other, .int i_otherSize, v_piece, .int i_pieceSize, .int i_at, .int i_end, .int i_value]))] s.heap := hP
  have hl := lv_entry ([.ref h0, .int a1]) (n := 2) (Nat.le_of_ble_eq_true rfl)
  rw [lg_entry_eq]
  generalize (lg_sl ([.ref h0, .int a1]) ++ List.replicate (2 - (lg_sl ([.ref h0, .int a1])).length) Slot.unset).toArray = ls at hl ⊢
  have hl : lv_has ls 2 [(0, .ref h0), (1, .int a1)] := hl
  refine lv_aload_n hx hb d_O_dropDocument_0 rfl (lv_at hl 0 rfl) ?_
  refine lv_iconst (v := 1) hx hb d_O_dropDocument_1 (by decide) ?_
  have hPc := hP.sub (ws' := [(h0, .inr (7, [.int i_thrown, .int 0, .int i_lasts, v_buffer, .int i_size, .int 0, v_gone, v_first, v_many, v_lengths, v_authors, v_sums, v_row, v_made, .int i_madeSize, v_base, .int i_baseSize, v_text, .int i_textSize, .int i_textSteps, v_other, .int i_otherSize, v_piece, .int i_pieceSize, .int i_at, .int i_end, .int i_value]))]) [0] rfl
  have hKc := hK.sub (tys' := []) [] rfl
  have hDc := hD.sub (ws' := [(h0, .inr (7, [.int i_thrown, .int 0, .int i_lasts, v_buffer, .int i_size, .int 0, v_gone, v_first, v_many, v_lengths, v_authors, v_sums, v_row, v_made, .int i_madeSize, v_base, .int i_baseSize, v_text, .int i_textSize, .int i_textSteps, v_other, .int i_otherSize, v_piece, .int i_pieceSize, .int i_at, .int i_end, .int i_value]))]) [0] (by decide) rfl
  have hFc := va_free (wc := [(h0, .inr (7, [.int i_thrown, .int 0, .int i_lasts, v_buffer, .int i_size, .int 0, v_gone, v_first, v_many, v_lengths, v_authors, v_sums, v_row, v_made, .int i_madeSize, v_base, .int i_baseSize, v_text, .int i_textSize, .int i_textSteps, v_other, .int i_otherSize, v_piece, .int i_pieceSize, .int i_at, .int i_end, .int i_value]))]) hD hS hA [0] rfl
  refine va_calli (va_runV (As := [.int 1]) (rest := []) ⟨hx, hb, hml, hown, hw0⟩ (m_runs l dC dI s.heap.size h0 i_thrown i_lasts v_buffer i_size 0 v_gone v_first v_many v_lengths v_authors v_sums v_row v_made i_madeSize v_base i_baseSize v_text i_textSize i_textSteps v_other i_otherSize v_piece i_pieceSize i_at i_end i_value 1) (cwV 1 hw0 (gd_V 176 177 178 173 179 rfl rfl rfl rfl rfl) rfl rfl rfl (by decide +kernel) ⟨by decide +kernel, by decide +kernel⟩) (prV_E hPc hKc hDc hN (va_recv hKc hPc (ci := 7) (q0 := 0) rfl rfl)) rfl rfl hl.1 rfl (lv_room (Nat.le_of_ble_eq_true rfl)) d_O_dropDocument_2 ⟨by decide +kernel, by decide +kernel⟩) hS (fun q _ h => hFc q h) hFc (fun r_1 u t H1 locs ht hvm hw hB hz1 hk1 hS => ?_)
  obtain ⟨hP1, hK1, hD1⟩ := hB
  rw [ht] at hP1
  have hK1 := va_K.moved hvm.symm hK1
  try dsimp only at hw
  obtain ⟨hP, hD⟩ := va_join (wr := []) (w1 := [(h0, .inr (7, [.int 0, .int 0, .int i_lasts, v_buffer, .int i_size, .int 0, v_gone, v_first, v_many, v_lengths, v_authors, v_sums, v_row, v_made, .int i_madeSize, v_base, .int i_baseSize, v_text, .int i_textSize, .int i_textSteps, v_other, .int i_otherSize, v_piece, .int i_pieceSize, .int i_at, .int i_end, .int i_value]))]) hP hD [0] [] rfl rfl (by decide) (by decide) hk1 hFc hP1 hD1
  generalize H1 = H at hP hS ⊢
  replace hP : va_P (dC, dI) vwCl [(h0, .inr (7, [.int 0, .int 0, .int i_lasts, v_buffer, .int i_size, .int 0, v_gone, v_first, v_many, v_lengths, v_authors, v_sums, v_row, v_made, .int i_madeSize, v_base, .int i_baseSize, v_text, .int i_textSize, .int i_textSteps, v_other, .int i_otherSize, v_piece, .int i_pieceSize, .int i_at, .int i_end, .int i_value]))] H := hP
  replace hD : va_D A [(h0, .inr (7, [.int 0, .int 0, .int i_lasts, v_buffer, .int i_size, .int 0, v_gone, v_first, v_many, v_lengths, v_authors, v_sums, v_row, v_made, .int i_madeSize, v_base, .int i_baseSize, v_text, .int i_textSize, .int i_textSteps, v_other, .int i_otherSize, v_piece, .int i_pieceSize, .int i_at, .int i_end, .int i_value]))] := hD
  replace hK : va_K (dC, dI) vwCl [] s := hK
  obtain rfl : r_1 = 1 := hw
  refine lv_if_eq (tgt := 24) hx hb d_O_dropDocument_5 (by decide) (fun h9 => absurd h9 (by decide +kernel)) (fun _ => ?_)
  refine lv_aload_n hx hb d_O_dropDocument_8 rfl (lv_at hl 0 rfl) ?_
  refine lv_iload_n hx hb d_O_dropDocument_9 rfl (lv_at hl 1 rfl) ?_
  have hPc := hP.sub (ws' := [(h0, .inr (7, [.int 0, .int 0, .int i_lasts, v_buffer, .int i_size, .int 0, v_gone, v_first, v_many, v_lengths, v_authors, v_sums, v_row, v_made, .int i_madeSize, v_base, .int i_baseSize, v_text, .int i_textSize, .int i_textSteps, v_other, .int i_otherSize, v_piece, .int i_pieceSize, .int i_at, .int i_end, .int i_value]))]) [0] rfl
  have hKc := hK.sub (tys' := []) [] rfl
  refine ps_i (va_runV (As := [.int a1]) (rest := []) ⟨hx, hb, hml, hown, hw0⟩ (m_isDocument l dC dI h0 0 0 i_lasts v_buffer i_size v_gone v_first v_many v_lengths v_authors v_sums v_row v_made i_madeSize v_base i_baseSize v_text i_textSize i_textSteps v_other i_otherSize v_piece i_pieceSize i_at i_end i_value a1) (cwV 1 hw0 (gd_V 170 171 172 173 174 rfl rfl rfl rfl rfl) rfl rfl rfl (by decide +kernel) ⟨by decide +kernel, by decide +kernel⟩) (prV_R hPc hKc hN (va_recv hKc hPc (ci := 7) (q0 := 0) rfl rfl)) rfl rfl hl.1 rfl (lv_room (Nat.le_of_ble_eq_true rfl)) d_O_dropDocument_10 ⟨by decide +kernel, by decide +kernel⟩) (fun r_3 hr_3 => ?_)
  obtain rfl : r_3 = 0 := hr_3
  refine lv_if_eq (tgt := 24) hx hb d_O_dropDocument_13 (by decide) (fun _ => ?_) (fun h9 => absurd h9 (by decide +kernel))
  refine lv_iconst (v := 0) hx hb d_O_dropDocument_24 (by decide) ?_
  have hP9 := hP.sub (ws' := [(h0, .inr (7, [.int 0, .int 0, .int i_lasts, v_buffer, .int i_size, .int 0, v_gone, v_first, v_many, v_lengths, v_authors, v_sums, v_row, v_made, .int i_madeSize, v_base, .int i_baseSize, v_text, .int i_textSize, .int i_textSteps, v_other, .int i_otherSize, v_piece, .int i_pieceSize, .int i_at, .int i_end, .int i_value]))]) [0] rfl
  have hD9 := hD.sub (ws' := [(h0, .inr (7, [.int 0, .int 0, .int i_lasts, v_buffer, .int i_size, .int 0, v_gone, v_first, v_many, v_lengths, v_authors, v_sums, v_row, v_made, .int i_madeSize, v_base, .int i_baseSize, v_text, .int i_textSize, .int i_textSteps, v_other, .int i_otherSize, v_piece, .int i_pieceSize, .int i_at, .int i_end, .int i_value]))]) [0] (by decide) rfl
  have hK9 := hK.sub (tys' := []) [] rfl
  exact W.zret (v := 0) (ty := .boolean) hx hb hr rfl (fun t ht hW => ⟨⟨0, (), rfl, rfl, by rw [ht]; exact hP9, va_K.moved hW.alike hK9, hD9⟩, hS.F ht⟩) hS.2.2 d_O_dropDocument_25
set_option maxHeartbeats 4000000 in
set_option maxRecDepth 100000 in
theorem m_pieceByte (l : Launch) (dC : Nat → ClassId) (dI : Nat → Nat → Nat) (sz : Nat) (h0 : Nat) (i_thrown : Int32) (i_lasts : Int32) (v_buffer : Value) (i_size : Int32) (v_gone : Value) (v_first : Value) (v_many : Value) (v_lengths : Value) (v_authors : Value) (v_sums : Value) (v_row : Value) (v_made : Value) (i_madeSize : Int32) (v_base : Value) (i_baseSize : Int32) (v_text : Value) (i_textSize : Int32) (i_textSteps : Int32) (v_other : Value) (i_otherSize : Int32) (v_piece : Value) (i_pieceSize : Int32) (i_at : Int32) (i_end : Int32) (i_value : Int32) (a1 : Int32) (a2 : Int32) (a3 : Int32)  : Met l y_O_pieceByte k_O_pieceByte ({ frames := 2, cells := 0, slots := 0, locals := 43 } : Room) (va_Pc [.ref h0, .int a1, .int a2, .int a3] (pc_E (dC, dI) [(h0, .inr (7, [.int i_thrown, .int 0, .int i_lasts, v_buffer, .int i_size, .int 0, v_gone, v_first, v_many, v_lengths, v_authors, v_sums, v_row, v_made, .int i_madeSize, v_base, .int i_baseSize, v_text, .int i_textSize, .int i_textSteps, v_other, .int i_otherSize, v_piece, .int i_pieceSize, .int i_at, .int i_end, .int i_value]))] [] sz)) (va_Qi (fun (r : Int32) (_ : Unit) => r = (-1)) (fun (_ : Unit) t => at_E (dC, dI) (va_A [(h0, .inr (7, [.int i_thrown, .int 0, .int i_lasts, v_buffer, .int i_size, .int 0, v_gone, v_first, v_many, v_lengths, v_authors, v_sums, v_row, v_made, .int i_madeSize, v_base, .int i_baseSize, v_text, .int i_textSize, .int i_textSteps, v_other, .int i_otherSize, v_piece, .int i_pieceSize, .int i_at, .int i_end, .int i_value]))] sz) [(h0, .inr (7, [.int 0, .int 0, .int i_lasts, v_buffer, .int i_size, .int 0, v_gone, v_first, v_many, v_lengths, v_authors, v_sums, v_row, v_made, .int i_madeSize, v_base, .int i_baseSize, v_text, .int i_textSize, .int i_textSteps, v_other, .int i_otherSize, v_piece, .int i_pieceSize, .int i_at, .int i_end, .int i_value]))] [] t) (va_A [(h0, .inr (7, [.int i_thrown, .int 0, .int i_lasts, v_buffer, .int i_size, .int 0, v_gone, v_first, v_many, v_lengths, v_authors, v_sums, v_row, v_made, .int i_madeSize, v_base, .int i_baseSize, v_text, .int i_textSize, .int i_textSteps, v_other, .int i_otherSize, v_piece, .int i_pieceSize, .int i_at, .int i_end, .int i_value]))] sz)) 0 0 (va_A [(h0, .inr (7, [.int i_thrown, .int 0, .int i_lasts, v_buffer, .int i_size, .int 0, v_gone, v_first, v_many, v_lengths, v_authors, v_sums, v_row, v_made, .int i_madeSize, v_base, .int i_baseSize, v_text, .int i_textSize, .int i_textSteps, v_other, .int i_otherSize, v_piece, .int i_pieceSize, .int i_at, .int i_end, .int i_value]))] sz) := by
  refine Met.ofW (cc := prog_9_method_35_code) (maxL := 5) (ret := (some .int)) (by decide) rfl ?_
  intro p e s m args below meth c s₁ B hml hv
  obtain ⟨rfl, hsz, hP, hK, hD0, hN⟩ := hv
  have hx := B.exec
  have hb := B.bytes
  have hr := B.returns
  have hts := atoms_spec (ws := k_O_pieceByte) B.pre
  have hw0 : ∀ w ∈ w0, w.before _ s = true := fun w h => hts w (List.mem_cons_of_mem _ h)
  have hown : s.vm.findClass R_O = some m.cls := findClass_of_methodNamed B.named
  have hlocks := B.notSynchronized
  subst hsz
  have hD := hD0.self (sz := s.heap.size)
  generalize hAe : va_A [(h0, .inr (7, [.int i_thrown, .int 0, .int i_lasts, v_buffer, .int i_size, .int 0, v_gone, v_first, v_many, v_lengths, v_authors, v_sums, v_row, v_made, .int i_madeSize, v_base, .int i_baseSize, v_text, .int i_textSize, .int i_textSteps, v_other, .int i_otherSize, v_piece, .int i_pieceSize, .int i_at, .int i_end, .int i_value]))] s.heap.size = A at hD ⊢
  have hA : ∀ q : Nat, s.heap.size ≤ q → A q := fun q h => by rw [← hAe]; exact Or.inr h
  have hS : va_S A s.heap s.heap [] := va_S.rf
  have hP : va_P (dC, dI) vwCl [(h0, .inr (7, [.int i_thrown, .int 0, .int i_lasts, v_buffer, .int i_size, .int 0, v_gone, v_first, v_many, v_lengths, v_authors, v_sums, v_row, v_made, .int i_madeSize, v_base, .int i_baseSize, v_text, .int i_textSize, .int i_textSteps, v_other, .int i_otherSize, v_piece, .int i_pieceSize, .int i_at, .int i_end, .int i_value]))] s.heap := hP
  have hl := lv_entry ([.ref h0, .int a1, .int a2, .int a3]) (n := 5) (Nat.le_of_ble_eq_true rfl)
  rw [lg_entry_eq]
  generalize (lg_sl ([.ref h0, .int a1, .int a2, .int a3]) ++ List.replicate (5 - (lg_sl ([.ref h0, .int a1, .int a2, .int a3])).length) Slot.unset).toArray = ls at hl ⊢
  have hl : lv_has ls 5 [(0, .ref h0), (1, .int a1), (2, .int a2), (3, .int a3)] := hl
  refine lv_aload_n hx hb d_O_pieceByte_0 rfl (lv_at hl 0 rfl) ?_
  refine lv_iconst (v := 1) hx hb d_O_pieceByte_1 (by decide) ?_
  have hPc := hP.sub (ws' := [(h0, .inr (7, [.int i_thrown, .int 0, .int i_lasts, v_buffer, .int i_size, .int 0, v_gone, v_first, v_many, v_lengths, v_authors, v_sums, v_row, v_made, .int i_madeSize, v_base, .int i_baseSize, v_text, .int i_textSize, .int i_textSteps, v_other, .int i_otherSize, v_piece, .int i_pieceSize, .int i_at, .int i_end, .int i_value]))]) [0] rfl
  have hKc := hK.sub (tys' := []) [] rfl
  have hDc := hD.sub (ws' := [(h0, .inr (7, [.int i_thrown, .int 0, .int i_lasts, v_buffer, .int i_size, .int 0, v_gone, v_first, v_many, v_lengths, v_authors, v_sums, v_row, v_made, .int i_madeSize, v_base, .int i_baseSize, v_text, .int i_textSize, .int i_textSteps, v_other, .int i_otherSize, v_piece, .int i_pieceSize, .int i_at, .int i_end, .int i_value]))]) [0] (by decide) rfl
  have hFc := va_free (wc := [(h0, .inr (7, [.int i_thrown, .int 0, .int i_lasts, v_buffer, .int i_size, .int 0, v_gone, v_first, v_many, v_lengths, v_authors, v_sums, v_row, v_made, .int i_madeSize, v_base, .int i_baseSize, v_text, .int i_textSize, .int i_textSteps, v_other, .int i_otherSize, v_piece, .int i_pieceSize, .int i_at, .int i_end, .int i_value]))]) hD hS hA [0] rfl
  refine va_calli (va_runV (As := [.int 1]) (rest := []) ⟨hx, hb, hml, hown, hw0⟩ (m_runs l dC dI s.heap.size h0 i_thrown i_lasts v_buffer i_size 0 v_gone v_first v_many v_lengths v_authors v_sums v_row v_made i_madeSize v_base i_baseSize v_text i_textSize i_textSteps v_other i_otherSize v_piece i_pieceSize i_at i_end i_value 1) (cwV 1 hw0 (gd_V 176 177 178 173 179 rfl rfl rfl rfl rfl) rfl rfl rfl (by decide +kernel) ⟨by decide +kernel, by decide +kernel⟩) (prV_E hPc hKc hDc hN (va_recv hKc hPc (ci := 7) (q0 := 0) rfl rfl)) rfl rfl hl.1 rfl (lv_room (Nat.le_of_ble_eq_true rfl)) d_O_pieceByte_2 ⟨by decide +kernel, by decide +kernel⟩) hS (fun q _ h => hFc q h) hFc (fun r_1 u t H1 locs ht hvm hw hB hz1 hk1 hS => ?_)
  obtain ⟨hP1, hK1, hD1⟩ := hB
  rw [ht] at hP1
  have hK1 := va_K.moved hvm.symm hK1
  try dsimp only at hw
  obtain ⟨hP, hD⟩ := va_join (wr := []) (w1 := [(h0, .inr (7, [.int 0, .int 0, .int i_lasts, v_buffer, .int i_size, .int 0, v_gone, v_first, v_many, v_lengths, v_authors, v_sums, v_row, v_made, .int i_madeSize, v_base, .int i_baseSize, v_text, .int i_textSize, .int i_textSteps, v_other, .int i_otherSize, v_piece, .int i_pieceSize, .int i_at, .int i_end, .int i_value]))]) hP hD [0] [] rfl rfl (by decide) (by decide) hk1 hFc hP1 hD1
  generalize H1 = H at hP hS ⊢
  replace hP : va_P (dC, dI) vwCl [(h0, .inr (7, [.int 0, .int 0, .int i_lasts, v_buffer, .int i_size, .int 0, v_gone, v_first, v_many, v_lengths, v_authors, v_sums, v_row, v_made, .int i_madeSize, v_base, .int i_baseSize, v_text, .int i_textSize, .int i_textSteps, v_other, .int i_otherSize, v_piece, .int i_pieceSize, .int i_at, .int i_end, .int i_value]))] H := hP
  replace hD : va_D A [(h0, .inr (7, [.int 0, .int 0, .int i_lasts, v_buffer, .int i_size, .int 0, v_gone, v_first, v_many, v_lengths, v_authors, v_sums, v_row, v_made, .int i_madeSize, v_base, .int i_baseSize, v_text, .int i_textSize, .int i_textSteps, v_other, .int i_otherSize, v_piece, .int i_pieceSize, .int i_at, .int i_end, .int i_value]))] := hD
  replace hK : va_K (dC, dI) vwCl [] s := hK
  obtain rfl : r_1 = 1 := hw
  refine lv_if_ne (tgt := 10) hx hb d_O_pieceByte_5 (by decide) (fun _ => ?_) (fun h9 => absurd h9 (by decide +kernel))
  refine lv_aload_n hx hb d_O_pieceByte_10 rfl (lv_at hl 0 rfl) ?_
  refine lv_iload_n hx hb d_O_pieceByte_11 rfl (lv_at hl 1 rfl) ?_
  refine lv_iload_n hx hb d_O_pieceByte_12 rfl (lv_at hl 2 rfl) ?_
  have hPc := hP.sub (ws' := [(h0, .inr (7, [.int 0, .int 0, .int i_lasts, v_buffer, .int i_size, .int 0, v_gone, v_first, v_many, v_lengths, v_authors, v_sums, v_row, v_made, .int i_madeSize, v_base, .int i_baseSize, v_text, .int i_textSize, .int i_textSteps, v_other, .int i_otherSize, v_piece, .int i_pieceSize, .int i_at, .int i_end, .int i_value]))]) [0] rfl
  have hKc := hK.sub (tys' := []) [] rfl
  refine ps_i (va_runV (As := [.int a1, .int a2]) (rest := []) ⟨hx, hb, hml, hown, hw0⟩ (m_kept l dC dI h0 0 0 i_lasts v_buffer i_size v_gone v_first v_many v_lengths v_authors v_sums v_row v_made i_madeSize v_base i_baseSize v_text i_textSize i_textSteps v_other i_otherSize v_piece i_pieceSize i_at i_end i_value a1 a2) (cwV 2 hw0 (gd_V 188 189 190 173 191 rfl rfl rfl rfl rfl) rfl rfl rfl (by decide +kernel) ⟨by decide +kernel, by decide +kernel⟩) (prV_R hPc hKc hN (va_recv hKc hPc (ci := 7) (q0 := 0) rfl rfl)) rfl rfl hl.1 rfl (lv_room (Nat.le_of_ble_eq_true rfl)) d_O_pieceByte_13 ⟨by decide +kernel, by decide +kernel⟩) (fun r_3 hr_3 => ?_)
  obtain rfl : r_3 = (-1) := hr_3
  refine lv_istore (lv' := [(4, .int (-1)), (0, .ref h0), (1, .int a1), (2, .int a2), (3, .int a3)]) hx hb d_O_pieceByte_16 hl (by decide) rfl (fun ls hl => ?_)
  refine lv_iload hx hb d_O_pieceByte_18 (lv_at hl 0 rfl) ?_
  refine lv_iconst (v := (-1)) hx hb d_O_pieceByte_20 (by decide) ?_
  refine lv_icmp_eq (tgt := 59) hx hb d_O_pieceByte_21 (by decide) (fun _ => ?_) (fun h9 => absurd h9 (by decide +kernel))
  refine lv_iconst (v := (-1)) hx hb d_O_pieceByte_59 (by decide) ?_
  have hP9 := hP.sub (ws' := [(h0, .inr (7, [.int 0, .int 0, .int i_lasts, v_buffer, .int i_size, .int 0, v_gone, v_first, v_many, v_lengths, v_authors, v_sums, v_row, v_made, .int i_madeSize, v_base, .int i_baseSize, v_text, .int i_textSize, .int i_textSteps, v_other, .int i_otherSize, v_piece, .int i_pieceSize, .int i_at, .int i_end, .int i_value]))]) [0] rfl
  have hD9 := hD.sub (ws' := [(h0, .inr (7, [.int 0, .int 0, .int i_lasts, v_buffer, .int i_size, .int 0, v_gone, v_first, v_many, v_lengths, v_authors, v_sums, v_row, v_made, .int i_madeSize, v_base, .int i_baseSize, v_text, .int i_textSize, .int i_textSteps, v_other, .int i_otherSize, v_piece, .int i_pieceSize, .int i_at, .int i_end, .int i_value]))]) [0] (by decide) rfl
  have hK9 := hK.sub (tys' := []) [] rfl
  exact W.iret (v := (-1)) hx hb hr (fun t ht hW => ⟨⟨(-1), (), rfl, rfl, by rw [ht]; exact hP9, va_K.moved hW.alike hK9, hD9⟩, hS.F ht⟩) hS.2.2 d_O_pieceByte_60
set_option maxHeartbeats 4000000 in
set_option maxRecDepth 100000 in
theorem m_damage (l : Launch) (dC : Nat → ClassId) (dI : Nat → Nat → Nat) (sz : Nat) (h0 : Nat) (i_thrown : Int32) (i_lasts : Int32) (v_buffer : Value) (i_size : Int32) (v_gone : Value) (v_first : Value) (v_many : Value) (v_lengths : Value) (v_authors : Value) (v_sums : Value) (v_row : Value) (v_made : Value) (i_madeSize : Int32) (v_base : Value) (i_baseSize : Int32) (v_text : Value) (i_textSize : Int32) (i_textSteps : Int32) (v_other : Value) (i_otherSize : Int32) (v_piece : Value) (i_pieceSize : Int32) (i_at : Int32) (i_end : Int32) (i_value : Int32) (a1 : Int32) (a2 : Int32) (a3 : Int32) (a4 : Int32)  : Met l y_O_damage k_O_damage ({ frames := 2, cells := 0, slots := 0, locals := 43 } : Room) (va_Pc [.ref h0, .int a1, .int a2, .int a3, .int a4] (pc_E (dC, dI) [(h0, .inr (7, [.int i_thrown, .int 0, .int i_lasts, v_buffer, .int i_size, .int 0, v_gone, v_first, v_many, v_lengths, v_authors, v_sums, v_row, v_made, .int i_madeSize, v_base, .int i_baseSize, v_text, .int i_textSize, .int i_textSteps, v_other, .int i_otherSize, v_piece, .int i_pieceSize, .int i_at, .int i_end, .int i_value]))] [] sz)) (va_Qi (fun (r : Int32) (_ : Unit) => r = 0) (fun (_ : Unit) t => at_E (dC, dI) (va_A [(h0, .inr (7, [.int i_thrown, .int 0, .int i_lasts, v_buffer, .int i_size, .int 0, v_gone, v_first, v_many, v_lengths, v_authors, v_sums, v_row, v_made, .int i_madeSize, v_base, .int i_baseSize, v_text, .int i_textSize, .int i_textSteps, v_other, .int i_otherSize, v_piece, .int i_pieceSize, .int i_at, .int i_end, .int i_value]))] sz) [(h0, .inr (7, [.int 0, .int 0, .int i_lasts, v_buffer, .int i_size, .int 0, v_gone, v_first, v_many, v_lengths, v_authors, v_sums, v_row, v_made, .int i_madeSize, v_base, .int i_baseSize, v_text, .int i_textSize, .int i_textSteps, v_other, .int i_otherSize, v_piece, .int i_pieceSize, .int i_at, .int i_end, .int i_value]))] [] t) (va_A [(h0, .inr (7, [.int i_thrown, .int 0, .int i_lasts, v_buffer, .int i_size, .int 0, v_gone, v_first, v_many, v_lengths, v_authors, v_sums, v_row, v_made, .int i_madeSize, v_base, .int i_baseSize, v_text, .int i_textSize, .int i_textSteps, v_other, .int i_otherSize, v_piece, .int i_pieceSize, .int i_at, .int i_end, .int i_value]))] sz)) 0 0 (va_A [(h0, .inr (7, [.int i_thrown, .int 0, .int i_lasts, v_buffer, .int i_size, .int 0, v_gone, v_first, v_many, v_lengths, v_authors, v_sums, v_row, v_made, .int i_madeSize, v_base, .int i_baseSize, v_text, .int i_textSize, .int i_textSteps, v_other, .int i_otherSize, v_piece, .int i_pieceSize, .int i_at, .int i_end, .int i_value]))] sz) := by
  refine Met.ofW (cc := prog_9_method_36_code) (maxL := 6) (ret := (some .boolean)) (by decide) rfl ?_
  intro p e s m args below meth c s₁ B hml hv
  obtain ⟨rfl, hsz, hP, hK, hD0, hN⟩ := hv
  have hx := B.exec
  have hb := B.bytes
  have hr := B.returns
  have hts := atoms_spec (ws := k_O_damage) B.pre
  have hw0 : ∀ w ∈ w0, w.before _ s = true := fun w h => hts w (List.mem_cons_of_mem _ h)
  have hown : s.vm.findClass R_O = some m.cls := findClass_of_methodNamed B.named
  have hlocks := B.notSynchronized
  subst hsz
  have hD := hD0.self (sz := s.heap.size)
  generalize hAe : va_A [(h0, .inr (7, [.int i_thrown, .int 0, .int i_lasts, v_buffer, .int i_size, .int 0, v_gone, v_first, v_many, v_lengths, v_authors, v_sums, v_row, v_made, .int i_madeSize, v_base, .int i_baseSize, v_text, .int i_textSize, .int i_textSteps, v_other, .int i_otherSize, v_piece, .int i_pieceSize, .int i_at, .int i_end, .int i_value]))] s.heap.size = A at hD ⊢
  have hA : ∀ q : Nat, s.heap.size ≤ q → A q := fun q h => by rw [← hAe]; exact Or.inr h
  have hS : va_S A s.heap s.heap [] := va_S.rf
  have hP : va_P (dC, dI) vwCl [(h0, .inr (7, [.int i_thrown, .int 0, .int i_lasts, v_buffer, .int i_size, .int 0, v_gone, v_first, v_many, v_lengths, v_authors, v_sums, v_row, v_made, .int i_madeSize, v_base, .int i_baseSize, v_text, .int i_textSize, .int i_textSteps, v_other, .int i_otherSize, v_piece, .int i_pieceSize, .int i_at, .int i_end, .int i_value]))] s.heap := hP
  have hl := lv_entry ([.ref h0, .int a1, .int a2, .int a3, .int a4]) (n := 6) (Nat.le_of_ble_eq_true rfl)
  rw [lg_entry_eq]
  generalize (lg_sl ([.ref h0, .int a1, .int a2, .int a3, .int a4]) ++ List.replicate (6 - (lg_sl ([.ref h0, .int a1, .int a2, .int a3, .int a4])).length) Slot.unset).toArray = ls at hl ⊢
  have hl : lv_has ls 6 [(0, .ref h0), (1, .int a1), (2, .int a2), (3, .int a3), (4, .int a4)] := hl
  refine lv_aload_n hx hb d_O_damage_0 rfl (lv_at hl 0 rfl) ?_
  refine lv_iconst (v := 1) hx hb d_O_damage_1 (by decide) ?_
  have hPc := hP.sub (ws' := [(h0, .inr (7, [.int i_thrown, .int 0, .int i_lasts, v_buffer, .int i_size, .int 0, v_gone, v_first, v_many, v_lengths, v_authors, v_sums, v_row, v_made, .int i_madeSize, v_base, .int i_baseSize, v_text, .int i_textSize, .int i_textSteps, v_other, .int i_otherSize, v_piece, .int i_pieceSize, .int i_at, .int i_end, .int i_value]))]) [0] rfl
  have hKc := hK.sub (tys' := []) [] rfl
  have hDc := hD.sub (ws' := [(h0, .inr (7, [.int i_thrown, .int 0, .int i_lasts, v_buffer, .int i_size, .int 0, v_gone, v_first, v_many, v_lengths, v_authors, v_sums, v_row, v_made, .int i_madeSize, v_base, .int i_baseSize, v_text, .int i_textSize, .int i_textSteps, v_other, .int i_otherSize, v_piece, .int i_pieceSize, .int i_at, .int i_end, .int i_value]))]) [0] (by decide) rfl
  have hFc := va_free (wc := [(h0, .inr (7, [.int i_thrown, .int 0, .int i_lasts, v_buffer, .int i_size, .int 0, v_gone, v_first, v_many, v_lengths, v_authors, v_sums, v_row, v_made, .int i_madeSize, v_base, .int i_baseSize, v_text, .int i_textSize, .int i_textSteps, v_other, .int i_otherSize, v_piece, .int i_pieceSize, .int i_at, .int i_end, .int i_value]))]) hD hS hA [0] rfl
  refine va_calli (va_runV (As := [.int 1]) (rest := []) ⟨hx, hb, hml, hown, hw0⟩ (m_runs l dC dI s.heap.size h0 i_thrown i_lasts v_buffer i_size 0 v_gone v_first v_many v_lengths v_authors v_sums v_row v_made i_madeSize v_base i_baseSize v_text i_textSize i_textSteps v_other i_otherSize v_piece i_pieceSize i_at i_end i_value 1) (cwV 1 hw0 (gd_V 176 177 178 173 179 rfl rfl rfl rfl rfl) rfl rfl rfl (by decide +kernel) ⟨by decide +kernel, by decide +kernel⟩) (prV_E hPc hKc hDc hN (va_recv hKc hPc (ci := 7) (q0 := 0) rfl rfl)) rfl rfl hl.1 rfl (lv_room (Nat.le_of_ble_eq_true rfl)) d_O_damage_2 ⟨by decide +kernel, by decide +kernel⟩) hS (fun q _ h => hFc q h) hFc (fun r_1 u t H1 locs ht hvm hw hB hz1 hk1 hS => ?_)
  obtain ⟨hP1, hK1, hD1⟩ := hB
  rw [ht] at hP1
  have hK1 := va_K.moved hvm.symm hK1
  try dsimp only at hw
  obtain ⟨hP, hD⟩ := va_join (wr := []) (w1 := [(h0, .inr (7, [.int 0, .int 0, .int i_lasts, v_buffer, .int i_size, .int 0, v_gone, v_first, v_many, v_lengths, v_authors, v_sums, v_row, v_made, .int i_madeSize, v_base, .int i_baseSize, v_text, .int i_textSize, .int i_textSteps, v_other, .int i_otherSize, v_piece, .int i_pieceSize, .int i_at, .int i_end, .int i_value]))]) hP hD [0] [] rfl rfl (by decide) (by decide) hk1 hFc hP1 hD1
  generalize H1 = H at hP hS ⊢
  replace hP : va_P (dC, dI) vwCl [(h0, .inr (7, [.int 0, .int 0, .int i_lasts, v_buffer, .int i_size, .int 0, v_gone, v_first, v_many, v_lengths, v_authors, v_sums, v_row, v_made, .int i_madeSize, v_base, .int i_baseSize, v_text, .int i_textSize, .int i_textSteps, v_other, .int i_otherSize, v_piece, .int i_pieceSize, .int i_at, .int i_end, .int i_value]))] H := hP
  replace hD : va_D A [(h0, .inr (7, [.int 0, .int 0, .int i_lasts, v_buffer, .int i_size, .int 0, v_gone, v_first, v_many, v_lengths, v_authors, v_sums, v_row, v_made, .int i_madeSize, v_base, .int i_baseSize, v_text, .int i_textSize, .int i_textSteps, v_other, .int i_otherSize, v_piece, .int i_pieceSize, .int i_at, .int i_end, .int i_value]))] := hD
  replace hK : va_K (dC, dI) vwCl [] s := hK
  obtain rfl : r_1 = 1 := hw
  refine lv_if_ne (tgt := 10) hx hb d_O_damage_5 (by decide) (fun _ => ?_) (fun h9 => absurd h9 (by decide +kernel))
  refine lv_aload_n hx hb d_O_damage_10 rfl (lv_at hl 0 rfl) ?_
  refine lv_iload_n hx hb d_O_damage_11 rfl (lv_at hl 1 rfl) ?_
  refine lv_iload_n hx hb d_O_damage_12 rfl (lv_at hl 2 rfl) ?_
  have hPc := hP.sub (ws' := [(h0, .inr (7, [.int 0, .int 0, .int i_lasts, v_buffer, .int i_size, .int 0, v_gone, v_first, v_many, v_lengths, v_authors, v_sums, v_row, v_made, .int i_madeSize, v_base, .int i_baseSize, v_text, .int i_textSize, .int i_textSteps, v_other, .int i_otherSize, v_piece, .int i_pieceSize, .int i_at, .int i_end, .int i_value]))]) [0] rfl
  have hKc := hK.sub (tys' := []) [] rfl
  refine ps_i (va_runV (As := [.int a1, .int a2]) (rest := []) ⟨hx, hb, hml, hown, hw0⟩ (m_kept l dC dI h0 0 0 i_lasts v_buffer i_size v_gone v_first v_many v_lengths v_authors v_sums v_row v_made i_madeSize v_base i_baseSize v_text i_textSize i_textSteps v_other i_otherSize v_piece i_pieceSize i_at i_end i_value a1 a2) (cwV 2 hw0 (gd_V 188 189 190 173 191 rfl rfl rfl rfl rfl) rfl rfl rfl (by decide +kernel) ⟨by decide +kernel, by decide +kernel⟩) (prV_R hPc hKc hN (va_recv hKc hPc (ci := 7) (q0 := 0) rfl rfl)) rfl rfl hl.1 rfl (lv_room (Nat.le_of_ble_eq_true rfl)) d_O_damage_13 ⟨by decide +kernel, by decide +kernel⟩) (fun r_3 hr_3 => ?_)
  obtain rfl : r_3 = (-1) := hr_3
  refine lv_istore (lv' := [(5, .int (-1)), (0, .ref h0), (1, .int a1), (2, .int a2), (3, .int a3), (4, .int a4)]) hx hb d_O_damage_16 hl (by decide) rfl (fun ls hl => ?_)
  refine lv_iload hx hb d_O_damage_18 (lv_at hl 0 rfl) ?_
  refine lv_iconst (v := (-1)) hx hb d_O_damage_20 (by decide) ?_
  refine lv_icmp_eq (tgt := 39) hx hb d_O_damage_21 (by decide) (fun _ => ?_) (fun h9 => absurd h9 (by decide +kernel))
  refine lv_iconst (v := 0) hx hb d_O_damage_39 (by decide) ?_
  have hP9 := hP.sub (ws' := [(h0, .inr (7, [.int 0, .int 0, .int i_lasts, v_buffer, .int i_size, .int 0, v_gone, v_first, v_many, v_lengths, v_authors, v_sums, v_row, v_made, .int i_madeSize, v_base, .int i_baseSize, v_text, .int i_textSize, .int i_textSteps, v_other, .int i_otherSize, v_piece, .int i_pieceSize, .int i_at, .int i_end, .int i_value]))]) [0] rfl
  have hD9 := hD.sub (ws' := [(h0, .inr (7, [.int 0, .int 0, .int i_lasts, v_buffer, .int i_size, .int 0, v_gone, v_first, v_many, v_lengths, v_authors, v_sums, v_row, v_made, .int i_madeSize, v_base, .int i_baseSize, v_text, .int i_textSize, .int i_textSteps, v_other, .int i_otherSize, v_piece, .int i_pieceSize, .int i_at, .int i_end, .int i_value]))]) [0] (by decide) rfl
  have hK9 := hK.sub (tys' := []) [] rfl
  exact W.zret (v := 0) (ty := .boolean) hx hb hr rfl (fun t ht hW => ⟨⟨0, (), rfl, rfl, by rw [ht]; exact hP9, va_K.moved hW.alike hK9, hD9⟩, hS.F ht⟩) hS.2.2 d_O_damage_40
set_option maxHeartbeats 4000000 in
set_option maxRecDepth 100000 in
theorem m_common (l : Launch) (dC : Nat → ClassId) (dI : Nat → Nat → Nat) (sz : Nat) (h0 : Nat) (i_thrown : Int32) (i_lasts : Int32) (v_buffer : Value) (i_size : Int32) (v_gone : Value) (v_first : Value) (v_many : Value) (v_lengths : Value) (v_authors : Value) (v_sums : Value) (v_row : Value) (v_made : Value) (i_madeSize : Int32) (v_base : Value) (i_baseSize : Int32) (v_text : Value) (i_textSize : Int32) (i_textSteps : Int32) (v_other : Value) (i_otherSize : Int32) (v_piece : Value) (i_pieceSize : Int32) (i_at : Int32) (i_end : Int32) (i_value : Int32) (a1 : Int32) (a2 : Int32) (a3 : Int32) (a4 : Int32)  : Met l y_O_common k_O_common ({ frames := 2, cells := 0, slots := 0, locals := 43 } : Room) (va_Pc [.ref h0, .int a1, .int a2, .int a3, .int a4] (pc_E (dC, dI) [(h0, .inr (7, [.int i_thrown, .int 0, .int i_lasts, v_buffer, .int i_size, .int 0, v_gone, v_first, v_many, v_lengths, v_authors, v_sums, v_row, v_made, .int i_madeSize, v_base, .int i_baseSize, v_text, .int i_textSize, .int i_textSteps, v_other, .int i_otherSize, v_piece, .int i_pieceSize, .int i_at, .int i_end, .int i_value]))] [] sz)) (va_Qi (fun (r : Int32) (_ : Unit) => r = (-1)) (fun (_ : Unit) t => at_E (dC, dI) (va_A [(h0, .inr (7, [.int i_thrown, .int 0, .int i_lasts, v_buffer, .int i_size, .int 0, v_gone, v_first, v_many, v_lengths, v_authors, v_sums, v_row, v_made, .int i_madeSize, v_base, .int i_baseSize, v_text, .int i_textSize, .int i_textSteps, v_other, .int i_otherSize, v_piece, .int i_pieceSize, .int i_at, .int i_end, .int i_value]))] sz) [(h0, .inr (7, [.int 0, .int 0, .int i_lasts, v_buffer, .int i_size, .int 0, v_gone, v_first, v_many, v_lengths, v_authors, v_sums, v_row, v_made, .int i_madeSize, v_base, .int i_baseSize, v_text, .int i_textSize, .int i_textSteps, v_other, .int i_otherSize, v_piece, .int i_pieceSize, .int i_at, .int i_end, .int i_value]))] [] t) (va_A [(h0, .inr (7, [.int i_thrown, .int 0, .int i_lasts, v_buffer, .int i_size, .int 0, v_gone, v_first, v_many, v_lengths, v_authors, v_sums, v_row, v_made, .int i_madeSize, v_base, .int i_baseSize, v_text, .int i_textSize, .int i_textSteps, v_other, .int i_otherSize, v_piece, .int i_pieceSize, .int i_at, .int i_end, .int i_value]))] sz)) 0 0 (va_A [(h0, .inr (7, [.int i_thrown, .int 0, .int i_lasts, v_buffer, .int i_size, .int 0, v_gone, v_first, v_many, v_lengths, v_authors, v_sums, v_row, v_made, .int i_madeSize, v_base, .int i_baseSize, v_text, .int i_textSize, .int i_textSteps, v_other, .int i_otherSize, v_piece, .int i_pieceSize, .int i_at, .int i_end, .int i_value]))] sz) := by
  refine Met.ofW (cc := prog_9_method_38_code) (maxL := 8) (ret := (some .int)) (by decide) rfl ?_
  intro p e s m args below meth c s₁ B hml hv
  obtain ⟨rfl, hsz, hP, hK, hD0, hN⟩ := hv
  have hx := B.exec
  have hb := B.bytes
  have hr := B.returns
  have hts := atoms_spec (ws := k_O_common) B.pre
  have hw0 : ∀ w ∈ w0, w.before _ s = true := fun w h => hts w (List.mem_cons_of_mem _ h)
  have hown : s.vm.findClass R_O = some m.cls := findClass_of_methodNamed B.named
  have hlocks := B.notSynchronized
  subst hsz
  have hD := hD0.self (sz := s.heap.size)
  generalize hAe : va_A [(h0, .inr (7, [.int i_thrown, .int 0, .int i_lasts, v_buffer, .int i_size, .int 0, v_gone, v_first, v_many, v_lengths, v_authors, v_sums, v_row, v_made, .int i_madeSize, v_base, .int i_baseSize, v_text, .int i_textSize, .int i_textSteps, v_other, .int i_otherSize, v_piece, .int i_pieceSize, .int i_at, .int i_end, .int i_value]))] s.heap.size = A at hD ⊢
  have hA : ∀ q : Nat, s.heap.size ≤ q → A q := fun q h => by rw [← hAe]; exact Or.inr h
  have hS : va_S A s.heap s.heap [] := va_S.rf
  have hP : va_P (dC, dI) vwCl [(h0, .inr (7, [.int i_thrown, .int 0, .int i_lasts, v_buffer, .int i_size, .int 0, v_gone, v_first, v_many, v_lengths, v_authors, v_sums, v_row, v_made, .int i_madeSize, v_base, .int i_baseSize, v_text, .int i_textSize, .int i_textSteps, v_other, .int i_otherSize, v_piece, .int i_pieceSize, .int i_at, .int i_end, .int i_value]))] s.heap := hP
  have hl := lv_entry ([.ref h0, .int a1, .int a2, .int a3, .int a4]) (n := 8) (Nat.le_of_ble_eq_true rfl)
  rw [lg_entry_eq]
  generalize (lg_sl ([.ref h0, .int a1, .int a2, .int a3, .int a4]) ++ List.replicate (8 - (lg_sl ([.ref h0, .int a1, .int a2, .int a3, .int a4])).length) Slot.unset).toArray = ls at hl ⊢
  have hl : lv_has ls 8 [(0, .ref h0), (1, .int a1), (2, .int a2), (3, .int a3), (4, .int a4)] := hl
  refine lv_aload_n hx hb d_O_common_0 rfl (lv_at hl 0 rfl) ?_
  refine lv_iconst (v := 1) hx hb d_O_common_1 (by decide) ?_
  have hPc := hP.sub (ws' := [(h0, .inr (7, [.int i_thrown, .int 0, .int i_lasts, v_buffer, .int i_size, .int 0, v_gone, v_first, v_many, v_lengths, v_authors, v_sums, v_row, v_made, .int i_madeSize, v_base, .int i_baseSize, v_text, .int i_textSize, .int i_textSteps, v_other, .int i_otherSize, v_piece, .int i_pieceSize, .int i_at, .int i_end, .int i_value]))]) [0] rfl
  have hKc := hK.sub (tys' := []) [] rfl
  have hDc := hD.sub (ws' := [(h0, .inr (7, [.int i_thrown, .int 0, .int i_lasts, v_buffer, .int i_size, .int 0, v_gone, v_first, v_many, v_lengths, v_authors, v_sums, v_row, v_made, .int i_madeSize, v_base, .int i_baseSize, v_text, .int i_textSize, .int i_textSteps, v_other, .int i_otherSize, v_piece, .int i_pieceSize, .int i_at, .int i_end, .int i_value]))]) [0] (by decide) rfl
  have hFc := va_free (wc := [(h0, .inr (7, [.int i_thrown, .int 0, .int i_lasts, v_buffer, .int i_size, .int 0, v_gone, v_first, v_many, v_lengths, v_authors, v_sums, v_row, v_made, .int i_madeSize, v_base, .int i_baseSize, v_text, .int i_textSize, .int i_textSteps, v_other, .int i_otherSize, v_piece, .int i_pieceSize, .int i_at, .int i_end, .int i_value]))]) hD hS hA [0] rfl
  refine va_calli (va_runV (As := [.int 1]) (rest := []) ⟨hx, hb, hml, hown, hw0⟩ (m_runs l dC dI s.heap.size h0 i_thrown i_lasts v_buffer i_size 0 v_gone v_first v_many v_lengths v_authors v_sums v_row v_made i_madeSize v_base i_baseSize v_text i_textSize i_textSteps v_other i_otherSize v_piece i_pieceSize i_at i_end i_value 1) (cwV 1 hw0 (gd_V 176 177 178 173 179 rfl rfl rfl rfl rfl) rfl rfl rfl (by decide +kernel) ⟨by decide +kernel, by decide +kernel⟩) (prV_E hPc hKc hDc hN (va_recv hKc hPc (ci := 7) (q0 := 0) rfl rfl)) rfl rfl hl.1 rfl (lv_room (Nat.le_of_ble_eq_true rfl)) d_O_common_2 ⟨by decide +kernel, by decide +kernel⟩) hS (fun q _ h => hFc q h) hFc (fun r_1 u t H1 locs ht hvm hw hB hz1 hk1 hS => ?_)
  obtain ⟨hP1, hK1, hD1⟩ := hB
  rw [ht] at hP1
  have hK1 := va_K.moved hvm.symm hK1
  try dsimp only at hw
  obtain ⟨hP, hD⟩ := va_join (wr := []) (w1 := [(h0, .inr (7, [.int 0, .int 0, .int i_lasts, v_buffer, .int i_size, .int 0, v_gone, v_first, v_many, v_lengths, v_authors, v_sums, v_row, v_made, .int i_madeSize, v_base, .int i_baseSize, v_text, .int i_textSize, .int i_textSteps, v_other, .int i_otherSize, v_piece, .int i_pieceSize, .int i_at, .int i_end, .int i_value]))]) hP hD [0] [] rfl rfl (by decide) (by decide) hk1 hFc hP1 hD1
  generalize H1 = H at hP hS ⊢
  replace hP : va_P (dC, dI) vwCl [(h0, .inr (7, [.int 0, .int 0, .int i_lasts, v_buffer, .int i_size, .int 0, v_gone, v_first, v_many, v_lengths, v_authors, v_sums, v_row, v_made, .int i_madeSize, v_base, .int i_baseSize, v_text, .int i_textSize, .int i_textSteps, v_other, .int i_otherSize, v_piece, .int i_pieceSize, .int i_at, .int i_end, .int i_value]))] H := hP
  replace hD : va_D A [(h0, .inr (7, [.int 0, .int 0, .int i_lasts, v_buffer, .int i_size, .int 0, v_gone, v_first, v_many, v_lengths, v_authors, v_sums, v_row, v_made, .int i_madeSize, v_base, .int i_baseSize, v_text, .int i_textSize, .int i_textSteps, v_other, .int i_otherSize, v_piece, .int i_pieceSize, .int i_at, .int i_end, .int i_value]))] := hD
  replace hK : va_K (dC, dI) vwCl [] s := hK
  obtain rfl : r_1 = 1 := hw
  refine lv_if_eq (tgt := 37) hx hb d_O_common_5 (by decide) (fun h9 => absurd h9 (by decide +kernel)) (fun _ => ?_)
  refine lv_aload_n hx hb d_O_common_8 rfl (lv_at hl 0 rfl) ?_
  refine lv_iload_n hx hb d_O_common_9 rfl (lv_at hl 1 rfl) ?_
  refine lv_iload_n hx hb d_O_common_10 rfl (lv_at hl 2 rfl) ?_
  have hPc := hP.sub (ws' := [(h0, .inr (7, [.int 0, .int 0, .int i_lasts, v_buffer, .int i_size, .int 0, v_gone, v_first, v_many, v_lengths, v_authors, v_sums, v_row, v_made, .int i_madeSize, v_base, .int i_baseSize, v_text, .int i_textSize, .int i_textSteps, v_other, .int i_otherSize, v_piece, .int i_pieceSize, .int i_at, .int i_end, .int i_value]))]) [0] rfl
  have hKc := hK.sub (tys' := []) [] rfl
  refine ps_i (va_runV (As := [.int a1, .int a2]) (rest := []) ⟨hx, hb, hml, hown, hw0⟩ (m_isAsked l dC dI h0 0 0 i_lasts v_buffer i_size v_gone v_first v_many v_lengths v_authors v_sums v_row v_made i_madeSize v_base i_baseSize v_text i_textSize i_textSteps v_other i_otherSize v_piece i_pieceSize i_at i_end i_value a1 a2) (cwV 2 hw0 (gd_V 184 185 186 173 187 rfl rfl rfl rfl rfl) rfl rfl rfl (by decide +kernel) ⟨by decide +kernel, by decide +kernel⟩) (prV_R hPc hKc hN (va_recv hKc hPc (ci := 7) (q0 := 0) rfl rfl)) rfl rfl hl.1 rfl (lv_room (Nat.le_of_ble_eq_true rfl)) d_O_common_11 ⟨by decide +kernel, by decide +kernel⟩) (fun r_3 hr_3 => ?_)
  obtain rfl : r_3 = 0 := hr_3
  refine lv_if_eq (tgt := 37) hx hb d_O_common_14 (by decide) (fun _ => ?_) (fun h9 => absurd h9 (by decide +kernel))
  refine lv_aload_n hx hb d_O_common_37 rfl (lv_at hl 0 rfl) ?_
  refine va_get (D := (dC, dI)) (ci := 7) (v := .int 0) (C := R_O) (T := F_O) (N := 27) hx hb hw0 in_O hown hK hP 0 rfl rfl 0 (by decide) (hw0 (.fieldLink R_O 62 "TextKeeperModel" "thrown" "I") (List.mem_of_getElem? (i := 168) rfl)) (fun _ h9 => h9) rfl d_O_common_38 ?_
  refine lv_if_ne (tgt := 48) hx hb d_O_common_41 (by decide) (fun h9 => absurd h9 (by decide +kernel)) (fun _ => ?_)
  refine lv_iconst (v := (-1)) hx hb d_O_common_44 (by decide) ?_
  refine lv_goto (tgt := 49) hx hb d_O_common_45 (by decide) ?_
  have hP9 := hP.sub (ws' := [(h0, .inr (7, [.int 0, .int 0, .int i_lasts, v_buffer, .int i_size, .int 0, v_gone, v_first, v_many, v_lengths, v_authors, v_sums, v_row, v_made, .int i_madeSize, v_base, .int i_baseSize, v_text, .int i_textSize, .int i_textSteps, v_other, .int i_otherSize, v_piece, .int i_pieceSize, .int i_at, .int i_end, .int i_value]))]) [0] rfl
  have hD9 := hD.sub (ws' := [(h0, .inr (7, [.int 0, .int 0, .int i_lasts, v_buffer, .int i_size, .int 0, v_gone, v_first, v_many, v_lengths, v_authors, v_sums, v_row, v_made, .int i_madeSize, v_base, .int i_baseSize, v_text, .int i_textSize, .int i_textSteps, v_other, .int i_otherSize, v_piece, .int i_pieceSize, .int i_at, .int i_end, .int i_value]))]) [0] (by decide) rfl
  have hK9 := hK.sub (tys' := []) [] rfl
  exact W.iret (v := (-1)) hx hb hr (fun t ht hW => ⟨⟨(-1), (), rfl, rfl, by rw [ht]; exact hP9, va_K.moved hW.alike hK9, hD9⟩, hS.F ht⟩) hS.2.2 d_O_common_49
set_option maxHeartbeats 4000000 in
set_option maxRecDepth 100000 in
theorem m_about (l : Launch) (dC : Nat → ClassId) (dI : Nat → Nat → Nat) (sz : Nat) (h0 : Nat) (i_thrown : Int32) (i_lasts : Int32) (v_buffer : Value) (i_size : Int32) (v_gone : Value) (v_first : Value) (v_many : Value) (v_lengths : Value) (v_authors : Value) (v_sums : Value) (v_row : Value) (v_made : Value) (i_madeSize : Int32) (v_base : Value) (i_baseSize : Int32) (v_text : Value) (i_textSize : Int32) (i_textSteps : Int32) (v_other : Value) (i_otherSize : Int32) (v_piece : Value) (i_pieceSize : Int32) (i_at : Int32) (i_end : Int32) (i_value : Int32) (a1 : Int32) (a2 : Int32)  : Met l y_O_about k_O_about ({ frames := 1, cells := 0, slots := 0, locals := 21 } : Room) (va_Pc [.ref h0, .int a1, .int a2] (pc_E (dC, dI) [(h0, .inr (7, [.int i_thrown, .int 0, .int i_lasts, v_buffer, .int i_size, .int 0, v_gone, v_first, v_many, v_lengths, v_authors, v_sums, v_row, v_made, .int i_madeSize, v_base, .int i_baseSize, v_text, .int i_textSize, .int i_textSteps, v_other, .int i_otherSize, v_piece, .int i_pieceSize, .int i_at, .int i_end, .int i_value]))] [] sz)) (va_Qi (fun (r : Int32) (_ : Unit) => r = 0) (fun (_ : Unit) t => at_E (dC, dI) (va_A [(h0, .inr (7, [.int i_thrown, .int 0, .int i_lasts, v_buffer, .int i_size, .int 0, v_gone, v_first, v_many, v_lengths, v_authors, v_sums, v_row, v_made, .int i_madeSize, v_base, .int i_baseSize, v_text, .int i_textSize, .int i_textSteps, v_other, .int i_otherSize, v_piece, .int i_pieceSize, .int i_at, .int i_end, .int i_value]))] sz) [(h0, .inr (7, [.int 1, .int 0, .int i_lasts, v_buffer, .int i_size, .int 0, v_gone, v_first, v_many, v_lengths, v_authors, v_sums, v_row, v_made, .int i_madeSize, v_base, .int i_baseSize, v_text, .int i_textSize, .int i_textSteps, v_other, .int i_otherSize, v_piece, .int i_pieceSize, .int i_at, .int i_end, .int i_value]))] [] t) (va_A [(h0, .inr (7, [.int i_thrown, .int 0, .int i_lasts, v_buffer, .int i_size, .int 0, v_gone, v_first, v_many, v_lengths, v_authors, v_sums, v_row, v_made, .int i_madeSize, v_base, .int i_baseSize, v_text, .int i_textSize, .int i_textSteps, v_other, .int i_otherSize, v_piece, .int i_pieceSize, .int i_at, .int i_end, .int i_value]))] sz)) 0 0 (va_A [(h0, .inr (7, [.int i_thrown, .int 0, .int i_lasts, v_buffer, .int i_size, .int 0, v_gone, v_first, v_many, v_lengths, v_authors, v_sums, v_row, v_made, .int i_madeSize, v_base, .int i_baseSize, v_text, .int i_textSize, .int i_textSteps, v_other, .int i_otherSize, v_piece, .int i_pieceSize, .int i_at, .int i_end, .int i_value]))] sz) := by
  refine Met.ofW (cc := prog_9_method_33_code) (maxL := 3) (ret := (some .int)) (by decide) rfl ?_
  intro p e s m args below meth c s₁ B hml hv
  obtain ⟨rfl, hsz, hP, hK, hD0, hN⟩ := hv
  have hx := B.exec
  have hb := B.bytes
  have hr := B.returns
  have hts := atoms_spec (ws := k_O_about) B.pre
  have hw0 : ∀ w ∈ w0, w.before _ s = true := fun w h => hts w (List.mem_cons_of_mem _ h)
  have hown : s.vm.findClass R_O = some m.cls := findClass_of_methodNamed B.named
  have hlocks := B.notSynchronized
  subst hsz
  have hD := hD0.self (sz := s.heap.size)
  generalize hAe : va_A [(h0, .inr (7, [.int i_thrown, .int 0, .int i_lasts, v_buffer, .int i_size, .int 0, v_gone, v_first, v_many, v_lengths, v_authors, v_sums, v_row, v_made, .int i_madeSize, v_base, .int i_baseSize, v_text, .int i_textSize, .int i_textSteps, v_other, .int i_otherSize, v_piece, .int i_pieceSize, .int i_at, .int i_end, .int i_value]))] s.heap.size = A at hD ⊢
  have hA : ∀ q : Nat, s.heap.size ≤ q → A q := fun q h => by rw [← hAe]; exact Or.inr h
  have hS : va_S A s.heap s.heap [] := va_S.rf
  have hP : va_P (dC, dI) vwCl [(h0, .inr (7, [.int i_thrown, .int 0, .int i_lasts, v_buffer, .int i_size, .int 0, v_gone, v_first, v_many, v_lengths, v_authors, v_sums, v_row, v_made, .int i_madeSize, v_base, .int i_baseSize, v_text, .int i_textSize, .int i_textSteps, v_other, .int i_otherSize, v_piece, .int i_pieceSize, .int i_at, .int i_end, .int i_value]))] s.heap := hP
  have hl := lv_entry ([.ref h0, .int a1, .int a2]) (n := 3) (Nat.le_of_ble_eq_true rfl)
  rw [lg_entry_eq]
  generalize (lg_sl ([.ref h0, .int a1, .int a2]) ++ List.replicate (3 - (lg_sl ([.ref h0, .int a1, .int a2])).length) Slot.unset).toArray = ls at hl ⊢
  have hl : lv_has ls 3 [(0, .ref h0), (1, .int a1), (2, .int a2)] := hl
  refine lv_aload_n hx hb d_O_about_0 rfl (lv_at hl 0 rfl) ?_
  refine lv_iconst (v := 3) hx hb d_O_about_1 (by decide) ?_
  have hPc := hP.sub (ws' := [(h0, .inr (7, [.int i_thrown, .int 0, .int i_lasts, v_buffer, .int i_size, .int 0, v_gone, v_first, v_many, v_lengths, v_authors, v_sums, v_row, v_made, .int i_madeSize, v_base, .int i_baseSize, v_text, .int i_textSize, .int i_textSteps, v_other, .int i_otherSize, v_piece, .int i_pieceSize, .int i_at, .int i_end, .int i_value]))]) [0] rfl
  have hKc := hK.sub (tys' := []) [] rfl
  have hDc := hD.sub (ws' := [(h0, .inr (7, [.int i_thrown, .int 0, .int i_lasts, v_buffer, .int i_size, .int 0, v_gone, v_first, v_many, v_lengths, v_authors, v_sums, v_row, v_made, .int i_madeSize, v_base, .int i_baseSize, v_text, .int i_textSize, .int i_textSteps, v_other, .int i_otherSize, v_piece, .int i_pieceSize, .int i_at, .int i_end, .int i_value]))]) [0] (by decide) rfl
  have hFc := va_free (wc := [(h0, .inr (7, [.int i_thrown, .int 0, .int i_lasts, v_buffer, .int i_size, .int 0, v_gone, v_first, v_many, v_lengths, v_authors, v_sums, v_row, v_made, .int i_madeSize, v_base, .int i_baseSize, v_text, .int i_textSize, .int i_textSteps, v_other, .int i_otherSize, v_piece, .int i_pieceSize, .int i_at, .int i_end, .int i_value]))]) hD hS hA [0] rfl
  refine va_calli (va_runV (As := [.int 3]) (rest := []) ⟨hx, hb, hml, hown, hw0⟩ (m_runs l dC dI s.heap.size h0 i_thrown i_lasts v_buffer i_size 0 v_gone v_first v_many v_lengths v_authors v_sums v_row v_made i_madeSize v_base i_baseSize v_text i_textSize i_textSteps v_other i_otherSize v_piece i_pieceSize i_at i_end i_value 3) (cwV 1 hw0 (gd_V 176 177 178 173 179 rfl rfl rfl rfl rfl) rfl rfl rfl (by decide +kernel) ⟨by decide +kernel, by decide +kernel⟩) (prV_E hPc hKc hDc hN (va_recv hKc hPc (ci := 7) (q0 := 0) rfl rfl)) rfl rfl hl.1 rfl (lv_room (Nat.le_of_ble_eq_true rfl)) d_O_about_2 ⟨by decide +kernel, by decide +kernel⟩) hS (fun q _ h => hFc q h) hFc (fun r_1 u t H1 locs ht hvm hw hB hz1 hk1 hS => ?_)
  obtain ⟨hP1, hK1, hD1⟩ := hB
  rw [ht] at hP1
  have hK1 := va_K.moved hvm.symm hK1
  try dsimp only at hw
  obtain ⟨hP, hD⟩ := va_join (wr := []) (w1 := [(h0, .inr (7, [.int 0, .int 0, .int i_lasts, v_buffer, .int i_size, .int 0, v_gone, v_first, v_many, v_lengths, v_authors, v_sums, v_row, v_made, .int i_madeSize, v_base, .int i_baseSize, v_text, .int i_textSize, .int i_textSteps, v_other, .int i_otherSize, v_piece, .int i_pieceSize, .int i_at, .int i_end, .int i_value]))]) hP hD [0] [] rfl rfl (by decide) (by decide) hk1 hFc hP1 hD1
  generalize H1 = H at hP hS ⊢
  replace hP : va_P (dC, dI) vwCl [(h0, .inr (7, [.int 0, .int 0, .int i_lasts, v_buffer, .int i_size, .int 0, v_gone, v_first, v_many, v_lengths, v_authors, v_sums, v_row, v_made, .int i_madeSize, v_base, .int i_baseSize, v_text, .int i_textSize, .int i_textSteps, v_other, .int i_otherSize, v_piece, .int i_pieceSize, .int i_at, .int i_end, .int i_value]))] H := hP
  replace hD : va_D A [(h0, .inr (7, [.int 0, .int 0, .int i_lasts, v_buffer, .int i_size, .int 0, v_gone, v_first, v_many, v_lengths, v_authors, v_sums, v_row, v_made, .int i_madeSize, v_base, .int i_baseSize, v_text, .int i_textSize, .int i_textSteps, v_other, .int i_otherSize, v_piece, .int i_pieceSize, .int i_at, .int i_end, .int i_value]))] := hD
  replace hK : va_K (dC, dI) vwCl [] s := hK
  obtain rfl : r_1 = 1 := hw
  refine lv_if_ne (tgt := 10) hx hb d_O_about_5 (by decide) (fun _ => ?_) (fun h9 => absurd h9 (by decide +kernel))
  refine lv_aload_n hx hb d_O_about_10 rfl (lv_at hl 0 rfl) ?_
  refine lv_aload_n hx hb d_O_about_11 rfl (lv_at hl 0 rfl) ?_
  refine lv_iload_n hx hb d_O_about_12 rfl (lv_at hl 1 rfl) ?_
  have hPc := hP.sub (ws' := [(h0, .inr (7, [.int 0, .int 0, .int i_lasts, v_buffer, .int i_size, .int 0, v_gone, v_first, v_many, v_lengths, v_authors, v_sums, v_row, v_made, .int i_madeSize, v_base, .int i_baseSize, v_text, .int i_textSize, .int i_textSteps, v_other, .int i_otherSize, v_piece, .int i_pieceSize, .int i_at, .int i_end, .int i_value]))]) [0] rfl
  have hKc := hK.sub (tys' := []) [] rfl
  refine ps_i (va_runV (As := [.int a1]) (rest := [.ref h0]) ⟨hx, hb, hml, hown, hw0⟩ (m_isDocument l dC dI h0 0 0 i_lasts v_buffer i_size v_gone v_first v_many v_lengths v_authors v_sums v_row v_made i_madeSize v_base i_baseSize v_text i_textSize i_textSteps v_other i_otherSize v_piece i_pieceSize i_at i_end i_value a1) (cwV 1 hw0 (gd_V 170 171 172 173 174 rfl rfl rfl rfl rfl) rfl rfl rfl (by decide +kernel) ⟨by decide +kernel, by decide +kernel⟩) (prV_R hPc hKc hN (va_recv hKc hPc (ci := 7) (q0 := 0) rfl rfl)) rfl rfl hl.1 rfl (lv_room (Nat.le_of_ble_eq_true rfl)) d_O_about_13 ⟨by decide +kernel, by decide +kernel⟩) (fun r_3 hr_3 => ?_)
  obtain rfl : r_3 = 0 := hr_3
  refine lv_if_ne (tgt := 23) hx hb d_O_about_16 (by decide) (fun h9 => absurd h9 (by decide +kernel)) (fun _ => ?_)
  refine lv_iconst (v := 1) hx hb d_O_about_19 (by decide) ?_
  refine lv_goto (tgt := 37) hx hb d_O_about_20 (by decide) ?_
  refine va_put (D := (dC, dI)) (ci := 7) (v := .int 1) (ty := .int) (C := R_O) (T := F_O) (N := 27) hx hb hw0 in_O ft_O tk_O nk_O hown hK hP hD hS 0 rfl rfl 0 (by decide) (hw0 (.fieldLink R_O 62 "TextKeeperModel" "thrown" "I") (List.mem_of_getElem? (i := 168) rfl)) (fun _ h9 => h9) rfl (by decide +kernel) rfl rfl (Nat.le_of_ble_eq_true rfl) d_O_about_37 (fun H locs hP hD hS => ?_)
  replace hP : va_P (dC, dI) vwCl [(h0, .inr (7, [.int 1, .int 0, .int i_lasts, v_buffer, .int i_size, .int 0, v_gone, v_first, v_many, v_lengths, v_authors, v_sums, v_row, v_made, .int i_madeSize, v_base, .int i_baseSize, v_text, .int i_textSize, .int i_textSteps, v_other, .int i_otherSize, v_piece, .int i_pieceSize, .int i_at, .int i_end, .int i_value]))] H := hP
  replace hD : va_D A [(h0, .inr (7, [.int 1, .int 0, .int i_lasts, v_buffer, .int i_size, .int 0, v_gone, v_first, v_many, v_lengths, v_authors, v_sums, v_row, v_made, .int i_madeSize, v_base, .int i_baseSize, v_text, .int i_textSize, .int i_textSteps, v_other, .int i_otherSize, v_piece, .int i_pieceSize, .int i_at, .int i_end, .int i_value]))] := hD
  refine lv_aload_n hx hb d_O_about_40 rfl (lv_at hl 0 rfl) ?_
  refine va_get (D := (dC, dI)) (ci := 7) (v := .int 1) (C := R_O) (T := F_O) (N := 27) hx hb hw0 in_O hown hK hP 0 rfl rfl 0 (by decide) (hw0 (.fieldLink R_O 62 "TextKeeperModel" "thrown" "I") (List.mem_of_getElem? (i := 168) rfl)) (fun _ h9 => h9) rfl d_O_about_41 ?_
  refine lv_if_eq (tgt := 51) hx hb d_O_about_44 (by decide) (fun h9 => absurd h9 (by decide +kernel)) (fun _ => ?_)
  refine lv_iconst (v := 0) hx hb d_O_about_47 (by decide) ?_
  refine lv_goto (tgt := 85) hx hb d_O_about_48 (by decide) ?_
  have hP9 := hP.sub (ws' := [(h0, .inr (7, [.int 1, .int 0, .int i_lasts, v_buffer, .int i_size, .int 0, v_gone, v_first, v_many, v_lengths, v_authors, v_sums, v_row, v_made, .int i_madeSize, v_base, .int i_baseSize, v_text, .int i_textSize, .int i_textSteps, v_other, .int i_otherSize, v_piece, .int i_pieceSize, .int i_at, .int i_end, .int i_value]))]) [0] rfl
  have hD9 := hD.sub (ws' := [(h0, .inr (7, [.int 1, .int 0, .int i_lasts, v_buffer, .int i_size, .int 0, v_gone, v_first, v_many, v_lengths, v_authors, v_sums, v_row, v_made, .int i_madeSize, v_base, .int i_baseSize, v_text, .int i_textSize, .int i_textSteps, v_other, .int i_otherSize, v_piece, .int i_pieceSize, .int i_at, .int i_end, .int i_value]))]) [0] (by decide) rfl
  have hK9 := hK.sub (tys' := []) [] rfl
  exact W.iret (v := 0) hx hb hr (fun t ht hW => ⟨⟨0, (), rfl, rfl, by rw [ht]; exact hP9, va_K.moved hW.alike hK9, hD9⟩, hS.F ht⟩) hS.2.2 d_O_about_85
set_option maxHeartbeats 4000000 in
set_option maxRecDepth 100000 in
theorem m_revision (l : Launch) (dC : Nat → ClassId) (dI : Nat → Nat → Nat) (sz : Nat) (h0 : Nat) (i_thrown : Int32) (i_lasts : Int32) (v_buffer : Value) (i_size : Int32) (v_gone : Value) (v_first : Value) (v_many : Value) (v_lengths : Value) (v_authors : Value) (v_sums : Value) (v_row : Value) (v_made : Value) (i_madeSize : Int32) (v_base : Value) (i_baseSize : Int32) (v_text : Value) (i_textSize : Int32) (i_textSteps : Int32) (v_other : Value) (i_otherSize : Int32) (v_piece : Value) (i_pieceSize : Int32) (i_at : Int32) (i_end : Int32) (i_value : Int32) (a1 : Int32) (a2 : Int32) (a3 : Int32)  : Met l y_O_revision k_O_revision ({ frames := 2, cells := 0, slots := 0, locals := 43 } : Room) (va_Pc [.ref h0, .int a1, .int a2, .int a3] (pc_E (dC, dI) [(h0, .inr (7, [.int i_thrown, .int 0, .int i_lasts, v_buffer, .int i_size, .int 0, v_gone, v_first, v_many, v_lengths, v_authors, v_sums, v_row, v_made, .int i_madeSize, v_base, .int i_baseSize, v_text, .int i_textSize, .int i_textSteps, v_other, .int i_otherSize, v_piece, .int i_pieceSize, .int i_at, .int i_end, .int i_value]))] [] sz)) (va_Qi (fun (r : Int32) (_ : Unit) => r = 0) (fun (_ : Unit) t => at_E (dC, dI) (va_A [(h0, .inr (7, [.int i_thrown, .int 0, .int i_lasts, v_buffer, .int i_size, .int 0, v_gone, v_first, v_many, v_lengths, v_authors, v_sums, v_row, v_made, .int i_madeSize, v_base, .int i_baseSize, v_text, .int i_textSize, .int i_textSteps, v_other, .int i_otherSize, v_piece, .int i_pieceSize, .int i_at, .int i_end, .int i_value]))] sz) [(h0, .inr (7, [.int 1, .int 0, .int i_lasts, v_buffer, .int i_size, .int 0, v_gone, v_first, v_many, v_lengths, v_authors, v_sums, v_row, v_made, .int i_madeSize, v_base, .int i_baseSize, v_text, .int i_textSize, .int i_textSteps, v_other, .int i_otherSize, v_piece, .int i_pieceSize, .int i_at, .int i_end, .int i_value]))] [] t) (va_A [(h0, .inr (7, [.int i_thrown, .int 0, .int i_lasts, v_buffer, .int i_size, .int 0, v_gone, v_first, v_many, v_lengths, v_authors, v_sums, v_row, v_made, .int i_madeSize, v_base, .int i_baseSize, v_text, .int i_textSize, .int i_textSteps, v_other, .int i_otherSize, v_piece, .int i_pieceSize, .int i_at, .int i_end, .int i_value]))] sz)) 0 0 (va_A [(h0, .inr (7, [.int i_thrown, .int 0, .int i_lasts, v_buffer, .int i_size, .int 0, v_gone, v_first, v_many, v_lengths, v_authors, v_sums, v_row, v_made, .int i_madeSize, v_base, .int i_baseSize, v_text, .int i_textSize, .int i_textSteps, v_other, .int i_otherSize, v_piece, .int i_pieceSize, .int i_at, .int i_end, .int i_value]))] sz) := by
  refine Met.ofW (cc := prog_9_method_34_code) (maxL := 5) (ret := (some .int)) (by decide) rfl ?_
  intro p e s m args below meth c s₁ B hml hv
  obtain ⟨rfl, hsz, hP, hK, hD0, hN⟩ := hv
  have hx := B.exec
  have hb := B.bytes
  have hr := B.returns
  have hts := atoms_spec (ws := k_O_revision) B.pre
  have hw0 : ∀ w ∈ w0, w.before _ s = true := fun w h => hts w (List.mem_cons_of_mem _ h)
  have hown : s.vm.findClass R_O = some m.cls := findClass_of_methodNamed B.named
  have hlocks := B.notSynchronized
  subst hsz
  have hD := hD0.self (sz := s.heap.size)
  generalize hAe : va_A [(h0, .inr (7, [.int i_thrown, .int 0, .int i_lasts, v_buffer, .int i_size, .int 0, v_gone, v_first, v_many, v_lengths, v_authors, v_sums, v_row, v_made, .int i_madeSize, v_base, .int i_baseSize, v_text, .int i_textSize, .int i_textSteps, v_other, .int i_otherSize, v_piece, .int i_pieceSize, .int i_at, .int i_end, .int i_value]))] s.heap.size = A at hD ⊢
  have hA : ∀ q : Nat, s.heap.size ≤ q → A q := fun q h => by rw [← hAe]; exact Or.inr h
  have hS : va_S A s.heap s.heap [] := va_S.rf
  have hP : va_P (dC, dI) vwCl [(h0, .inr (7, [.int i_thrown, .int 0, .int i_lasts, v_buffer, .int i_size, .int 0, v_gone, v_first, v_many, v_lengths, v_authors, v_sums, v_row, v_made, .int i_madeSize, v_base, .int i_baseSize, v_text, .int i_textSize, .int i_textSteps, v_other, .int i_otherSize, v_piece, .int i_pieceSize, .int i_at, .int i_end, .int i_value]))] s.heap := hP
  have hl := lv_entry ([.ref h0, .int a1, .int a2, .int a3]) (n := 5) (Nat.le_of_ble_eq_true rfl)
  rw [lg_entry_eq]
  generalize (lg_sl ([.ref h0, .int a1, .int a2, .int a3]) ++ List.replicate (5 - (lg_sl ([.ref h0, .int a1, .int a2, .int a3])).length) Slot.unset).toArray = ls at hl ⊢
  have hl : lv_has ls 5 [(0, .ref h0), (1, .int a1), (2, .int a2), (3, .int a3)] := hl
  refine lv_aload_n hx hb d_O_revision_0 rfl (lv_at hl 0 rfl) ?_
  refine lv_iconst (v := 3) hx hb d_O_revision_1 (by decide) ?_
  have hPc := hP.sub (ws' := [(h0, .inr (7, [.int i_thrown, .int 0, .int i_lasts, v_buffer, .int i_size, .int 0, v_gone, v_first, v_many, v_lengths, v_authors, v_sums, v_row, v_made, .int i_madeSize, v_base, .int i_baseSize, v_text, .int i_textSize, .int i_textSteps, v_other, .int i_otherSize, v_piece, .int i_pieceSize, .int i_at, .int i_end, .int i_value]))]) [0] rfl
  have hKc := hK.sub (tys' := []) [] rfl
  have hDc := hD.sub (ws' := [(h0, .inr (7, [.int i_thrown, .int 0, .int i_lasts, v_buffer, .int i_size, .int 0, v_gone, v_first, v_many, v_lengths, v_authors, v_sums, v_row, v_made, .int i_madeSize, v_base, .int i_baseSize, v_text, .int i_textSize, .int i_textSteps, v_other, .int i_otherSize, v_piece, .int i_pieceSize, .int i_at, .int i_end, .int i_value]))]) [0] (by decide) rfl
  have hFc := va_free (wc := [(h0, .inr (7, [.int i_thrown, .int 0, .int i_lasts, v_buffer, .int i_size, .int 0, v_gone, v_first, v_many, v_lengths, v_authors, v_sums, v_row, v_made, .int i_madeSize, v_base, .int i_baseSize, v_text, .int i_textSize, .int i_textSteps, v_other, .int i_otherSize, v_piece, .int i_pieceSize, .int i_at, .int i_end, .int i_value]))]) hD hS hA [0] rfl
  refine va_calli (va_runV (As := [.int 3]) (rest := []) ⟨hx, hb, hml, hown, hw0⟩ (m_runs l dC dI s.heap.size h0 i_thrown i_lasts v_buffer i_size 0 v_gone v_first v_many v_lengths v_authors v_sums v_row v_made i_madeSize v_base i_baseSize v_text i_textSize i_textSteps v_other i_otherSize v_piece i_pieceSize i_at i_end i_value 3) (cwV 1 hw0 (gd_V 176 177 178 173 179 rfl rfl rfl rfl rfl) rfl rfl rfl (by decide +kernel) ⟨by decide +kernel, by decide +kernel⟩) (prV_E hPc hKc hDc hN (va_recv hKc hPc (ci := 7) (q0 := 0) rfl rfl)) rfl rfl hl.1 rfl (lv_room (Nat.le_of_ble_eq_true rfl)) d_O_revision_2 ⟨by decide +kernel, by decide +kernel⟩) hS (fun q _ h => hFc q h) hFc (fun r_1 u t H1 locs ht hvm hw hB hz1 hk1 hS => ?_)
  obtain ⟨hP1, hK1, hD1⟩ := hB
  rw [ht] at hP1
  have hK1 := va_K.moved hvm.symm hK1
  try dsimp only at hw
  obtain ⟨hP, hD⟩ := va_join (wr := []) (w1 := [(h0, .inr (7, [.int 0, .int 0, .int i_lasts, v_buffer, .int i_size, .int 0, v_gone, v_first, v_many, v_lengths, v_authors, v_sums, v_row, v_made, .int i_madeSize, v_base, .int i_baseSize, v_text, .int i_textSize, .int i_textSteps, v_other, .int i_otherSize, v_piece, .int i_pieceSize, .int i_at, .int i_end, .int i_value]))]) hP hD [0] [] rfl rfl (by decide) (by decide) hk1 hFc hP1 hD1
  generalize H1 = H at hP hS ⊢
  replace hP : va_P (dC, dI) vwCl [(h0, .inr (7, [.int 0, .int 0, .int i_lasts, v_buffer, .int i_size, .int 0, v_gone, v_first, v_many, v_lengths, v_authors, v_sums, v_row, v_made, .int i_madeSize, v_base, .int i_baseSize, v_text, .int i_textSize, .int i_textSteps, v_other, .int i_otherSize, v_piece, .int i_pieceSize, .int i_at, .int i_end, .int i_value]))] H := hP
  replace hD : va_D A [(h0, .inr (7, [.int 0, .int 0, .int i_lasts, v_buffer, .int i_size, .int 0, v_gone, v_first, v_many, v_lengths, v_authors, v_sums, v_row, v_made, .int i_madeSize, v_base, .int i_baseSize, v_text, .int i_textSize, .int i_textSteps, v_other, .int i_otherSize, v_piece, .int i_pieceSize, .int i_at, .int i_end, .int i_value]))] := hD
  replace hK : va_K (dC, dI) vwCl [] s := hK
  obtain rfl : r_1 = 1 := hw
  refine lv_if_ne (tgt := 10) hx hb d_O_revision_5 (by decide) (fun _ => ?_) (fun h9 => absurd h9 (by decide +kernel))
  refine lv_aload_n hx hb d_O_revision_10 rfl (lv_at hl 0 rfl) ?_
  refine lv_iload_n hx hb d_O_revision_11 rfl (lv_at hl 1 rfl) ?_
  refine lv_iload_n hx hb d_O_revision_12 rfl (lv_at hl 2 rfl) ?_
  have hPc := hP.sub (ws' := [(h0, .inr (7, [.int 0, .int 0, .int i_lasts, v_buffer, .int i_size, .int 0, v_gone, v_first, v_many, v_lengths, v_authors, v_sums, v_row, v_made, .int i_madeSize, v_base, .int i_baseSize, v_text, .int i_textSize, .int i_textSteps, v_other, .int i_otherSize, v_piece, .int i_pieceSize, .int i_at, .int i_end, .int i_value]))]) [0] rfl
  have hKc := hK.sub (tys' := []) [] rfl
  refine ps_i (va_runV (As := [.int a1, .int a2]) (rest := []) ⟨hx, hb, hml, hown, hw0⟩ (m_kept l dC dI h0 0 0 i_lasts v_buffer i_size v_gone v_first v_many v_lengths v_authors v_sums v_row v_made i_madeSize v_base i_baseSize v_text i_textSize i_textSteps v_other i_otherSize v_piece i_pieceSize i_at i_end i_value a1 a2) (cwV 2 hw0 (gd_V 188 189 190 173 191 rfl rfl rfl rfl rfl) rfl rfl rfl (by decide +kernel) ⟨by decide +kernel, by decide +kernel⟩) (prV_R hPc hKc hN (va_recv hKc hPc (ci := 7) (q0 := 0) rfl rfl)) rfl rfl hl.1 rfl (lv_room (Nat.le_of_ble_eq_true rfl)) d_O_revision_13 ⟨by decide +kernel, by decide +kernel⟩) (fun r_3 hr_3 => ?_)
  obtain rfl : r_3 = (-1) := hr_3
  refine lv_istore (lv' := [(4, .int (-1)), (0, .ref h0), (1, .int a1), (2, .int a2), (3, .int a3)]) hx hb d_O_revision_16 hl (by decide) rfl (fun ls hl => ?_)
  refine lv_aload_n hx hb d_O_revision_18 rfl (lv_at hl 1 rfl) ?_
  refine lv_iload hx hb d_O_revision_19 (lv_at hl 0 rfl) ?_
  refine lv_iconst (v := (-1)) hx hb d_O_revision_21 (by decide) ?_
  refine lv_icmp_eq (tgt := 39) hx hb d_O_revision_22 (by decide) (fun _ => ?_) (fun h9 => absurd h9 (by decide +kernel))
  refine lv_iconst (v := 1) hx hb d_O_revision_39 (by decide) ?_
  refine lv_goto (tgt := 57) hx hb d_O_revision_40 (by decide) ?_
  refine va_put (D := (dC, dI)) (ci := 7) (v := .int 1) (ty := .int) (C := R_O) (T := F_O) (N := 27) hx hb hw0 in_O ft_O tk_O nk_O hown hK hP hD hS 0 rfl rfl 0 (by decide) (hw0 (.fieldLink R_O 62 "TextKeeperModel" "thrown" "I") (List.mem_of_getElem? (i := 168) rfl)) (fun _ h9 => h9) rfl (by decide +kernel) rfl rfl (Nat.le_of_ble_eq_true rfl) d_O_revision_57 (fun H locs hP hD hS => ?_)
  replace hP : va_P (dC, dI) vwCl [(h0, .inr (7, [.int 1, .int 0, .int i_lasts, v_buffer, .int i_size, .int 0, v_gone, v_first, v_many, v_lengths, v_authors, v_sums, v_row, v_made, .int i_madeSize, v_base, .int i_baseSize, v_text, .int i_textSize, .int i_textSteps, v_other, .int i_otherSize, v_piece, .int i_pieceSize, .int i_at, .int i_end, .int i_value]))] H := hP
  replace hD : va_D A [(h0, .inr (7, [.int 1, .int 0, .int i_lasts, v_buffer, .int i_size, .int 0, v_gone, v_first, v_many, v_lengths, v_authors, v_sums, v_row, v_made, .int i_madeSize, v_base, .int i_baseSize, v_text, .int i_textSize, .int i_textSteps, v_other, .int i_otherSize, v_piece, .int i_pieceSize, .int i_at, .int i_end, .int i_value]))] := hD
  refine lv_aload_n hx hb d_O_revision_60 rfl (lv_at hl 1 rfl) ?_
  refine va_get (D := (dC, dI)) (ci := 7) (v := .int 1) (C := R_O) (T := F_O) (N := 27) hx hb hw0 in_O hown hK hP 0 rfl rfl 0 (by decide) (hw0 (.fieldLink R_O 62 "TextKeeperModel" "thrown" "I") (List.mem_of_getElem? (i := 168) rfl)) (fun _ h9 => h9) rfl d_O_revision_61 ?_
  refine lv_if_eq (tgt := 71) hx hb d_O_revision_64 (by decide) (fun h9 => absurd h9 (by decide +kernel)) (fun _ => ?_)
  refine lv_iconst (v := 0) hx hb d_O_revision_67 (by decide) ?_
  refine lv_goto (tgt := 107) hx hb d_O_revision_68 (by decide) ?_
  have hP9 := hP.sub (ws' := [(h0, .inr (7, [.int 1, .int 0, .int i_lasts, v_buffer, .int i_size, .int 0, v_gone, v_first, v_many, v_lengths, v_authors, v_sums, v_row, v_made, .int i_madeSize, v_base, .int i_baseSize, v_text, .int i_textSize, .int i_textSteps, v_other, .int i_otherSize, v_piece, .int i_pieceSize, .int i_at, .int i_end, .int i_value]))]) [0] rfl
  have hD9 := hD.sub (ws' := [(h0, .inr (7, [.int 1, .int 0, .int i_lasts, v_buffer, .int i_size, .int 0, v_gone, v_first, v_many, v_lengths, v_authors, v_sums, v_row, v_made, .int i_madeSize, v_base, .int i_baseSize, v_text, .int i_textSize, .int i_textSteps, v_other, .int i_otherSize, v_piece, .int i_pieceSize, .int i_at, .int i_end, .int i_value]))]) [0] (by decide) rfl
  have hK9 := hK.sub (tys' := []) [] rfl
  exact W.iret (v := 0) hx hb hr (fun t ht hW => ⟨⟨0, (), rfl, rfl, by rw [ht]; exact hP9, va_K.moved hW.alike hK9, hD9⟩, hS.F ht⟩) hS.2.2 d_O_revision_107
set_option maxHeartbeats 4000000 in
set_option maxRecDepth 100000 in
theorem m_out (l : Launch) (dC : Nat → ClassId) (dI : Nat → Nat → Nat) (sz : Nat) (h0 : Nat) (i_thrown : Int32) (i_lasts : Int32) (v_buffer : Value) (i_size : Int32) (i_documents : Int32) (v_gone : Value) (v_first : Value) (v_many : Value) (v_lengths : Value) (v_authors : Value) (v_sums : Value) (v_row : Value) (v_made : Value) (i_madeSize : Int32) (v_base : Value) (i_baseSize : Int32) (v_text : Value) (i_textSteps : Int32) (v_other : Value) (i_otherSize : Int32) (v_piece : Value) (i_pieceSize : Int32) (i_at : Int32) (i_end : Int32) (i_value : Int32) (a1 : Int32)  : Met l y_O_out k_O_out ({ frames := 1, cells := 0, slots := 0, locals := 21 } : Room) (va_Pc [.ref h0, .int a1] (pc_E (dC, dI) [(h0, .inr (7, [.int i_thrown, .int 0, .int i_lasts, v_buffer, .int i_size, .int i_documents, v_gone, v_first, v_many, v_lengths, v_authors, v_sums, v_row, v_made, .int i_madeSize, v_base, .int i_baseSize, v_text, .int (-1), .int i_textSteps, v_other, .int i_otherSize, v_piece, .int i_pieceSize, .int i_at, .int i_end, .int i_value]))] [] sz)) (va_Qi (fun (r : Int32) (_ : Unit) => r = (-1)) (fun (_ : Unit) t => at_E (dC, dI) (va_A [(h0, .inr (7, [.int i_thrown, .int 0, .int i_lasts, v_buffer, .int i_size, .int i_documents, v_gone, v_first, v_many, v_lengths, v_authors, v_sums, v_row, v_made, .int i_madeSize, v_base, .int i_baseSize, v_text, .int (-1), .int i_textSteps, v_other, .int i_otherSize, v_piece, .int i_pieceSize, .int i_at, .int i_end, .int i_value]))] sz) [(h0, .inr (7, [.int 0, .int 0, .int i_lasts, v_buffer, .int i_size, .int i_documents, v_gone, v_first, v_many, v_lengths, v_authors, v_sums, v_row, v_made, .int i_madeSize, v_base, .int i_baseSize, v_text, .int (-1), .int i_textSteps, v_other, .int i_otherSize, v_piece, .int i_pieceSize, .int i_at, .int i_end, .int i_value]))] [] t) (va_A [(h0, .inr (7, [.int i_thrown, .int 0, .int i_lasts, v_buffer, .int i_size, .int i_documents, v_gone, v_first, v_many, v_lengths, v_authors, v_sums, v_row, v_made, .int i_madeSize, v_base, .int i_baseSize, v_text, .int (-1), .int i_textSteps, v_other, .int i_otherSize, v_piece, .int i_pieceSize, .int i_at, .int i_end, .int i_value]))] sz)) 0 0 (va_A [(h0, .inr (7, [.int i_thrown, .int 0, .int i_lasts, v_buffer, .int i_size, .int i_documents, v_gone, v_first, v_many, v_lengths, v_authors, v_sums, v_row, v_made, .int i_madeSize, v_base, .int i_baseSize, v_text, .int (-1), .int i_textSteps, v_other, .int i_otherSize, v_piece, .int i_pieceSize, .int i_at, .int i_end, .int i_value]))] sz) := by
  refine Met.ofW (cc := prog_9_method_29_code) (maxL := 2) (ret := (some .int)) (by decide) rfl ?_
  intro p e s m args below meth c s₁ B hml hv
  obtain ⟨rfl, hsz, hP, hK, hD0, hN⟩ := hv
  have hx := B.exec
  have hb := B.bytes
  have hr := B.returns
  have hts := atoms_spec (ws := k_O_out) B.pre
  have hw0 : ∀ w ∈ w0, w.before _ s = true := fun w h => hts w (List.mem_cons_of_mem _ h)
  have hown : s.vm.findClass R_O = some m.cls := findClass_of_methodNamed B.named
  have hlocks := B.notSynchronized
  subst hsz
  have hD := hD0.self (sz := s.heap.size)
  generalize hAe : va_A [(h0, .inr (7, [.int i_thrown, .int 0, .int i_lasts, v_buffer, .int i_size, .int i_documents, v_gone, v_first, v_many, v_lengths, v_authors, v_sums, v_row, v_made, .int i_madeSize, v_base, .int i_baseSize, v_text, .int (-1), .int i_textSteps, v_other, .int i_otherSize, v_piece, .int i_pieceSize, .int i_at, .int i_end, .int i_value]))] s.heap.size = A at hD ⊢
  have hA : ∀ q : Nat, s.heap.size ≤ q → A q := fun q h => by rw [← hAe]; exact Or.inr h
  have hS : va_S A s.heap s.heap [] := va_S.rf
  have hP : va_P (dC, dI) vwCl [(h0, .inr (7, [.int i_thrown, .int 0, .int i_lasts, v_buffer, .int i_size, .int i_documents, v_gone, v_first, v_many, v_lengths, v_authors, v_sums, v_row, v_made, .int i_madeSize, v_base, .int i_baseSize, v_text, .int (-1), .int i_textSteps, v_other, .int i_otherSize, v_piece, .int i_pieceSize, .int i_at, .int i_end, .int i_value]))] s.heap := hP
  have hl := lv_entry ([.ref h0, .int a1]) (n := 2) (Nat.le_of_ble_eq_true rfl)
  rw [lg_entry_eq]
  generalize (lg_sl ([.ref h0, .int a1]) ++ List.replicate (2 - (lg_sl ([.ref h0, .int a1])).length) Slot.unset).toArray = ls at hl ⊢
  have hl : lv_has ls 2 [(0, .ref h0), (1, .int a1)] := hl
  refine lv_aload_n hx hb d_O_out_0 rfl (lv_at hl 0 rfl) ?_
  refine lv_iconst (v := 1) hx hb d_O_out_1 (by decide) ?_
  have hPc := hP.sub (ws' := [(h0, .inr (7, [.int i_thrown, .int 0, .int i_lasts, v_buffer, .int i_size, .int i_documents, v_gone, v_first, v_many, v_lengths, v_authors, v_sums, v_row, v_made, .int i_madeSize, v_base, .int i_baseSize, v_text, .int (-1), .int i_textSteps, v_other, .int i_otherSize, v_piece, .int i_pieceSize, .int i_at, .int i_end, .int i_value]))]) [0] rfl
  have hKc := hK.sub (tys' := []) [] rfl
  have hDc := hD.sub (ws' := [(h0, .inr (7, [.int i_thrown, .int 0, .int i_lasts, v_buffer, .int i_size, .int i_documents, v_gone, v_first, v_many, v_lengths, v_authors, v_sums, v_row, v_made, .int i_madeSize, v_base, .int i_baseSize, v_text, .int (-1), .int i_textSteps, v_other, .int i_otherSize, v_piece, .int i_pieceSize, .int i_at, .int i_end, .int i_value]))]) [0] (by decide) rfl
  have hFc := va_free (wc := [(h0, .inr (7, [.int i_thrown, .int 0, .int i_lasts, v_buffer, .int i_size, .int i_documents, v_gone, v_first, v_many, v_lengths, v_authors, v_sums, v_row, v_made, .int i_madeSize, v_base, .int i_baseSize, v_text, .int (-1), .int i_textSteps, v_other, .int i_otherSize, v_piece, .int i_pieceSize, .int i_at, .int i_end, .int i_value]))]) hD hS hA [0] rfl
  refine va_calli (va_runV (As := [.int 1]) (rest := []) ⟨hx, hb, hml, hown, hw0⟩ (m_runs l dC dI s.heap.size h0 i_thrown i_lasts v_buffer i_size i_documents v_gone v_first v_many v_lengths v_authors v_sums v_row v_made i_madeSize v_base i_baseSize v_text (-1) i_textSteps v_other i_otherSize v_piece i_pieceSize i_at i_end i_value 1) (cwV 1 hw0 (gd_V 176 177 178 173 179 rfl rfl rfl rfl rfl) rfl rfl rfl (by decide +kernel) ⟨by decide +kernel, by decide +kernel⟩) (prV_E hPc hKc hDc hN (va_recv hKc hPc (ci := 7) (q0 := 0) rfl rfl)) rfl rfl hl.1 rfl (lv_room (Nat.le_of_ble_eq_true rfl)) d_O_out_2 ⟨by decide +kernel, by decide +kernel⟩) hS (fun q _ h => hFc q h) hFc (fun r_1 u t H1 locs ht hvm hw hB hz1 hk1 hS => ?_)
  obtain ⟨hP1, hK1, hD1⟩ := hB
  rw [ht] at hP1
  have hK1 := va_K.moved hvm.symm hK1
  try dsimp only at hw
  obtain ⟨hP, hD⟩ := va_join (wr := []) (w1 := [(h0, .inr (7, [.int 0, .int 0, .int i_lasts, v_buffer, .int i_size, .int i_documents, v_gone, v_first, v_many, v_lengths, v_authors, v_sums, v_row, v_made, .int i_madeSize, v_base, .int i_baseSize, v_text, .int (-1), .int i_textSteps, v_other, .int i_otherSize, v_piece, .int i_pieceSize, .int i_at, .int i_end, .int i_value]))]) hP hD [0] [] rfl rfl (by decide) (by decide) hk1 hFc hP1 hD1
  generalize H1 = H at hP hS ⊢
  replace hP : va_P (dC, dI) vwCl [(h0, .inr (7, [.int 0, .int 0, .int i_lasts, v_buffer, .int i_size, .int i_documents, v_gone, v_first, v_many, v_lengths, v_authors, v_sums, v_row, v_made, .int i_madeSize, v_base, .int i_baseSize, v_text, .int (-1), .int i_textSteps, v_other, .int i_otherSize, v_piece, .int i_pieceSize, .int i_at, .int i_end, .int i_value]))] H := hP
  replace hD : va_D A [(h0, .inr (7, [.int 0, .int 0, .int i_lasts, v_buffer, .int i_size, .int i_documents, v_gone, v_first, v_many, v_lengths, v_authors, v_sums, v_row, v_made, .int i_madeSize, v_base, .int i_baseSize, v_text, .int (-1), .int i_textSteps, v_other, .int i_otherSize, v_piece, .int i_pieceSize, .int i_at, .int i_end, .int i_value]))] := hD
  replace hK : va_K (dC, dI) vwCl [] s := hK
  obtain rfl : r_1 = 1 := hw
  refine lv_if_ne (tgt := 10) hx hb d_O_out_5 (by decide) (fun _ => ?_) (fun h9 => absurd h9 (by decide +kernel))
  refine lv_iload_n hx hb d_O_out_10 rfl (lv_at hl 1 rfl) ?_
  refine lv_if_lt (tgt := 35) hx hb d_O_out_11 (by decide) (fun c_3 => ?_) (fun c_3 => ?_)
  · refine lv_iconst (v := (-1)) hx hb d_O_out_35 (by decide) ?_
    have hP9 := hP.sub (ws' := [(h0, .inr (7, [.int 0, .int 0, .int i_lasts, v_buffer, .int i_size, .int i_documents, v_gone, v_first, v_many, v_lengths, v_authors, v_sums, v_row, v_made, .int i_madeSize, v_base, .int i_baseSize, v_text, .int (-1), .int i_textSteps, v_other, .int i_otherSize, v_piece, .int i_pieceSize, .int i_at, .int i_end, .int i_value]))]) [0] rfl
    have hD9 := hD.sub (ws' := [(h0, .inr (7, [.int 0, .int 0, .int i_lasts, v_buffer, .int i_size, .int i_documents, v_gone, v_first, v_many, v_lengths, v_authors, v_sums, v_row, v_made, .int i_madeSize, v_base, .int i_baseSize, v_text, .int (-1), .int i_textSteps, v_other, .int i_otherSize, v_piece, .int i_pieceSize, .int i_at, .int i_end, .int i_value]))]) [0] (by decide) rfl
    have hK9 := hK.sub (tys' := []) [] rfl
    exact W.iret (v := (-1)) hx hb hr (fun t ht hW => ⟨⟨(-1), (), rfl, rfl, by rw [ht]; exact hP9, va_K.moved hW.alike hK9, hD9⟩, hS.F ht⟩) hS.2.2 d_O_out_36
  · refine lv_iload_n hx hb d_O_out_14 rfl (lv_at hl 1 rfl) ?_
    refine lv_aload_n hx hb d_O_out_15 rfl (lv_at hl 0 rfl) ?_
    refine va_get (D := (dC, dI)) (ci := 7) (v := .int (-1)) (C := R_O) (T := F_O) (N := 27) hx hb hw0 in_O hown hK hP 0 rfl rfl 18 (by decide) (hw0 (.fieldLink R_O 50 "TextKeeperModel" "textSize" "I") (List.mem_of_getElem? (i := 192) rfl)) (fun _ h9 => h9) rfl d_O_out_16 ?_
    refine lv_icmp_ge (tgt := 35) hx hb d_O_out_19 (by decide) (fun c_4 => ?_) (fun c_4 => (x_m1 c_3 c_4).elim)
    refine lv_iconst (v := (-1)) hx hb d_O_out_35 (by decide) ?_
    have hP9 := hP.sub (ws' := [(h0, .inr (7, [.int 0, .int 0, .int i_lasts, v_buffer, .int i_size, .int i_documents, v_gone, v_first, v_many, v_lengths, v_authors, v_sums, v_row, v_made, .int i_madeSize, v_base, .int i_baseSize, v_text, .int (-1), .int i_textSteps, v_other, .int i_otherSize, v_piece, .int i_pieceSize, .int i_at, .int i_end, .int i_value]))]) [0] rfl
    have hD9 := hD.sub (ws' := [(h0, .inr (7, [.int 0, .int 0, .int i_lasts, v_buffer, .int i_size, .int i_documents, v_gone, v_first, v_many, v_lengths, v_authors, v_sums, v_row, v_made, .int i_madeSize, v_base, .int i_baseSize, v_text, .int (-1), .int i_textSteps, v_other, .int i_otherSize, v_piece, .int i_pieceSize, .int i_at, .int i_end, .int i_value]))]) [0] (by decide) rfl
    have hK9 := hK.sub (tys' := []) [] rfl
    exact W.iret (v := (-1)) hx hb hr (fun t ht hW => ⟨⟨(-1), (), rfl, rfl, by rw [ht]; exact hP9, va_K.moved hW.alike hK9, hD9⟩, hS.F ht⟩) hS.2.2 d_O_out_36
set_option maxHeartbeats 4000000 in
set_option maxRecDepth 100000 in
theorem m_steps (l : Launch) (dC : Nat → ClassId) (dI : Nat → Nat → Nat) (sz : Nat) (h0 : Nat) (i_thrown : Int32) (i_lasts : Int32) (v_buffer : Value) (i_size : Int32) (i_documents : Int32) (v_gone : Value) (v_first : Value) (v_many : Value) (v_lengths : Value) (v_authors : Value) (v_sums : Value) (v_row : Value) (v_made : Value) (i_madeSize : Int32) (v_base : Value) (i_baseSize : Int32) (v_text : Value) (i_textSize : Int32) (v_other : Value) (i_otherSize : Int32) (v_piece : Value) (i_pieceSize : Int32) (i_at : Int32) (i_end : Int32) (i_value : Int32)  : Met l y_O_steps k_O_steps ({ frames := 1, cells := 0, slots := 0, locals := 21 } : Room) (va_Pc [.ref h0] (pc_E (dC, dI) [(h0, .inr (7, [.int i_thrown, .int 0, .int i_lasts, v_buffer, .int i_size, .int i_documents, v_gone, v_first, v_many, v_lengths, v_authors, v_sums, v_row, v_made, .int i_madeSize, v_base, .int i_baseSize, v_text, .int i_textSize, .int (-1), v_other, .int i_otherSize, v_piece, .int i_pieceSize, .int i_at, .int i_end, .int i_value]))] [] sz)) (va_Qi (fun (r : Int32) (_ : Unit) => r = (-1)) (fun (_ : Unit) t => at_E (dC, dI) (va_A [(h0, .inr (7, [.int i_thrown, .int 0, .int i_lasts, v_buffer, .int i_size, .int i_documents, v_gone, v_first, v_many, v_lengths, v_authors, v_sums, v_row, v_made, .int i_madeSize, v_base, .int i_baseSize, v_text, .int i_textSize, .int (-1), v_other, .int i_otherSize, v_piece, .int i_pieceSize, .int i_at, .int i_end, .int i_value]))] sz) [(h0, .inr (7, [.int 0, .int 0, .int i_lasts, v_buffer, .int i_size, .int i_documents, v_gone, v_first, v_many, v_lengths, v_authors, v_sums, v_row, v_made, .int i_madeSize, v_base, .int i_baseSize, v_text, .int i_textSize, .int (-1), v_other, .int i_otherSize, v_piece, .int i_pieceSize, .int i_at, .int i_end, .int i_value]))] [] t) (va_A [(h0, .inr (7, [.int i_thrown, .int 0, .int i_lasts, v_buffer, .int i_size, .int i_documents, v_gone, v_first, v_many, v_lengths, v_authors, v_sums, v_row, v_made, .int i_madeSize, v_base, .int i_baseSize, v_text, .int i_textSize, .int (-1), v_other, .int i_otherSize, v_piece, .int i_pieceSize, .int i_at, .int i_end, .int i_value]))] sz)) 0 0 (va_A [(h0, .inr (7, [.int i_thrown, .int 0, .int i_lasts, v_buffer, .int i_size, .int i_documents, v_gone, v_first, v_many, v_lengths, v_authors, v_sums, v_row, v_made, .int i_madeSize, v_base, .int i_baseSize, v_text, .int i_textSize, .int (-1), v_other, .int i_otherSize, v_piece, .int i_pieceSize, .int i_at, .int i_end, .int i_value]))] sz) := by
  refine Met.ofW (cc := prog_9_method_30_code) (maxL := 1) (ret := (some .int)) (by decide) rfl ?_
  intro p e s m args below meth c s₁ B hml hv
  obtain ⟨rfl, hsz, hP, hK, hD0, hN⟩ := hv
  have hx := B.exec
  have hb := B.bytes
  have hr := B.returns
  have hts := atoms_spec (ws := k_O_steps) B.pre
  have hw0 : ∀ w ∈ w0, w.before _ s = true := fun w h => hts w (List.mem_cons_of_mem _ h)
  have hown : s.vm.findClass R_O = some m.cls := findClass_of_methodNamed B.named
  have hlocks := B.notSynchronized
  subst hsz
  have hD := hD0.self (sz := s.heap.size)
  generalize hAe : va_A [(h0, .inr (7, [.int i_thrown, .int 0, .int i_lasts, v_buffer, .int i_size, .int i_documents, v_gone, v_first, v_many, v_lengths, v_authors, v_sums, v_row, v_made, .int i_madeSize, v_base, .int i_baseSize, v_text, .int i_textSize, .int (-1), v_other, .int i_otherSize, v_piece, .int i_pieceSize, .int i_at, .int i_end, .int i_value]))] s.heap.size = A at hD ⊢
  have hA : ∀ q : Nat, s.heap.size ≤ q → A q := fun q h => by rw [← hAe]; exact Or.inr h
  have hS : va_S A s.heap s.heap [] := va_S.rf
  have hP : va_P (dC, dI) vwCl [(h0, .inr (7, [.int i_thrown, .int 0, .int i_lasts, v_buffer, .int i_size, .int i_documents, v_gone, v_first, v_many, v_lengths, v_authors, v_sums, v_row, v_made, .int i_madeSize, v_base, .int i_baseSize, v_text, .int i_textSize, .int (-1), v_other, .int i_otherSize, v_piece, .int i_pieceSize, .int i_at, .int i_end, .int i_value]))] s.heap := hP
  have hl := lv_entry ([.ref h0]) (n := 1) (Nat.le_of_ble_eq_true rfl)
  rw [lg_entry_eq]
  generalize (lg_sl ([.ref h0]) ++ List.replicate (1 - (lg_sl ([.ref h0])).length) Slot.unset).toArray = ls at hl ⊢
  have hl : lv_has ls 1 [(0, .ref h0)] := hl
  refine lv_aload_n hx hb d_O_steps_0 rfl (lv_at hl 0 rfl) ?_
  refine lv_iconst (v := 1) hx hb d_O_steps_1 (by decide) ?_
  have hPc := hP.sub (ws' := [(h0, .inr (7, [.int i_thrown, .int 0, .int i_lasts, v_buffer, .int i_size, .int i_documents, v_gone, v_first, v_many, v_lengths, v_authors, v_sums, v_row, v_made, .int i_madeSize, v_base, .int i_baseSize, v_text, .int i_textSize, .int (-1), v_other, .int i_otherSize, v_piece, .int i_pieceSize, .int i_at, .int i_end, .int i_value]))]) [0] rfl
  have hKc := hK.sub (tys' := []) [] rfl
  have hDc := hD.sub (ws' := [(h0, .inr (7, [.int i_thrown, .int 0, .int i_lasts, v_buffer, .int i_size, .int i_documents, v_gone, v_first, v_many, v_lengths, v_authors, v_sums, v_row, v_made, .int i_madeSize, v_base, .int i_baseSize, v_text, .int i_textSize, .int (-1), v_other, .int i_otherSize, v_piece, .int i_pieceSize, .int i_at, .int i_end, .int i_value]))]) [0] (by decide) rfl
  have hFc := va_free (wc := [(h0, .inr (7, [.int i_thrown, .int 0, .int i_lasts, v_buffer, .int i_size, .int i_documents, v_gone, v_first, v_many, v_lengths, v_authors, v_sums, v_row, v_made, .int i_madeSize, v_base, .int i_baseSize, v_text, .int i_textSize, .int (-1), v_other, .int i_otherSize, v_piece, .int i_pieceSize, .int i_at, .int i_end, .int i_value]))]) hD hS hA [0] rfl
  refine va_calli (va_runV (As := [.int 1]) (rest := []) ⟨hx, hb, hml, hown, hw0⟩ (m_runs l dC dI s.heap.size h0 i_thrown i_lasts v_buffer i_size i_documents v_gone v_first v_many v_lengths v_authors v_sums v_row v_made i_madeSize v_base i_baseSize v_text i_textSize (-1) v_other i_otherSize v_piece i_pieceSize i_at i_end i_value 1) (cwV 1 hw0 (gd_V 176 177 178 173 179 rfl rfl rfl rfl rfl) rfl rfl rfl (by decide +kernel) ⟨by decide +kernel, by decide +kernel⟩) (prV_E hPc hKc hDc hN (va_recv hKc hPc (ci := 7) (q0 := 0) rfl rfl)) rfl rfl hl.1 rfl (lv_room (Nat.le_of_ble_eq_true rfl)) d_O_steps_2 ⟨by decide +kernel, by decide +kernel⟩) hS (fun q _ h => hFc q h) hFc (fun r_1 u t H1 locs ht hvm hw hB hz1 hk1 hS => ?_)
  obtain ⟨hP1, hK1, hD1⟩ := hB
  rw [ht] at hP1
  have hK1 := va_K.moved hvm.symm hK1
  try dsimp only at hw
  obtain ⟨hP, hD⟩ := va_join (wr := []) (w1 := [(h0, .inr (7, [.int 0, .int 0, .int i_lasts, v_buffer, .int i_size, .int i_documents, v_gone, v_first, v_many, v_lengths, v_authors, v_sums, v_row, v_made, .int i_madeSize, v_base, .int i_baseSize, v_text, .int i_textSize, .int (-1), v_other, .int i_otherSize, v_piece, .int i_pieceSize, .int i_at, .int i_end, .int i_value]))]) hP hD [0] [] rfl rfl (by decide) (by decide) hk1 hFc hP1 hD1
  generalize H1 = H at hP hS ⊢
  replace hP : va_P (dC, dI) vwCl [(h0, .inr (7, [.int 0, .int 0, .int i_lasts, v_buffer, .int i_size, .int i_documents, v_gone, v_first, v_many, v_lengths, v_authors, v_sums, v_row, v_made, .int i_madeSize, v_base, .int i_baseSize, v_text, .int i_textSize, .int (-1), v_other, .int i_otherSize, v_piece, .int i_pieceSize, .int i_at, .int i_end, .int i_value]))] H := hP
  replace hD : va_D A [(h0, .inr (7, [.int 0, .int 0, .int i_lasts, v_buffer, .int i_size, .int i_documents, v_gone, v_first, v_many, v_lengths, v_authors, v_sums, v_row, v_made, .int i_madeSize, v_base, .int i_baseSize, v_text, .int i_textSize, .int (-1), v_other, .int i_otherSize, v_piece, .int i_pieceSize, .int i_at, .int i_end, .int i_value]))] := hD
  replace hK : va_K (dC, dI) vwCl [] s := hK
  obtain rfl : r_1 = 1 := hw
  refine lv_if_eq (tgt := 15) hx hb d_O_steps_5 (by decide) (fun h9 => absurd h9 (by decide +kernel)) (fun _ => ?_)
  refine lv_aload_n hx hb d_O_steps_8 rfl (lv_at hl 0 rfl) ?_
  refine va_get (D := (dC, dI)) (ci := 7) (v := .int (-1)) (C := R_O) (T := F_O) (N := 27) hx hb hw0 in_O hown hK hP 0 rfl rfl 19 (by decide) (hw0 (.fieldLink R_O 53 "TextKeeperModel" "textSteps" "I") (List.mem_of_getElem? (i := 193) rfl)) (fun _ h9 => h9) rfl d_O_steps_9 ?_
  refine lv_goto (tgt := 16) hx hb d_O_steps_12 (by decide) ?_
  have hP9 := hP.sub (ws' := [(h0, .inr (7, [.int 0, .int 0, .int i_lasts, v_buffer, .int i_size, .int i_documents, v_gone, v_first, v_many, v_lengths, v_authors, v_sums, v_row, v_made, .int i_madeSize, v_base, .int i_baseSize, v_text, .int i_textSize, .int (-1), v_other, .int i_otherSize, v_piece, .int i_pieceSize, .int i_at, .int i_end, .int i_value]))]) [0] rfl
  have hD9 := hD.sub (ws' := [(h0, .inr (7, [.int 0, .int 0, .int i_lasts, v_buffer, .int i_size, .int i_documents, v_gone, v_first, v_many, v_lengths, v_authors, v_sums, v_row, v_made, .int i_madeSize, v_base, .int i_baseSize, v_text, .int i_textSize, .int (-1), v_other, .int i_otherSize, v_piece, .int i_pieceSize, .int i_at, .int i_end, .int i_value]))]) [0] (by decide) rfl
  have hK9 := hK.sub (tys' := []) [] rfl
  exact W.iret (v := (-1)) hx hb hr (fun t ht hW => ⟨⟨(-1), (), rfl, rfl, by rw [ht]; exact hP9, va_K.moved hW.alike hK9, hD9⟩, hS.F ht⟩) hS.2.2 d_O_steps_16
set_option maxHeartbeats 4000000 in
set_option maxRecDepth 100000 in
theorem m_start (l : Launch) (dC : Nat → ClassId) (dI : Nat → Nat → Nat) (sz : Nat) (h0 : Nat) (i_thrown : Int32) (i_lasts : Int32) (v_buffer : Value) (i_size : Int32) (i_documents : Int32) (v_gone : Value) (v_first : Value) (v_many : Value) (v_lengths : Value) (v_authors : Value) (v_sums : Value) (v_row : Value) (v_made : Value) (i_madeSize : Int32) (v_base : Value) (i_baseSize : Int32) (v_text : Value) (i_textSize : Int32) (i_textSteps : Int32) (v_other : Value) (i_otherSize : Int32) (v_piece : Value) (i_pieceSize : Int32) (i_at : Int32) (i_end : Int32) (i_value : Int32)  : Met l y_O_start k_O_start ({ frames := 0, cells := 0, slots := 0, locals := 0 } : Room) (va_Pc [.ref h0] (pc_E (dC, dI) [(h0, .inr (7, [.int i_thrown, .int 0, .int i_lasts, v_buffer, .int i_size, .int i_documents, v_gone, v_first, v_many, v_lengths, v_authors, v_sums, v_row, v_made, .int i_madeSize, v_base, .int i_baseSize, v_text, .int i_textSize, .int i_textSteps, v_other, .int i_otherSize, v_piece, .int i_pieceSize, .int i_at, .int i_end, .int i_value]))] [] sz)) (va_Qi (fun (r : Int32) (_ : Unit) => r = 0) (fun (_ : Unit) t => at_E (dC, dI) (va_A [(h0, .inr (7, [.int i_thrown, .int 0, .int i_lasts, v_buffer, .int i_size, .int i_documents, v_gone, v_first, v_many, v_lengths, v_authors, v_sums, v_row, v_made, .int i_madeSize, v_base, .int i_baseSize, v_text, .int i_textSize, .int i_textSteps, v_other, .int i_otherSize, v_piece, .int i_pieceSize, .int i_at, .int i_end, .int i_value]))] sz) [(h0, .inr (7, [.int 0, .int 0, .int i_lasts, v_buffer, .int i_size, .int i_documents, v_gone, v_first, v_many, v_lengths, v_authors, v_sums, v_row, v_made, .int i_madeSize, v_base, .int i_baseSize, v_text, .int i_textSize, .int i_textSteps, v_other, .int i_otherSize, v_piece, .int i_pieceSize, .int i_at, .int i_end, .int i_value]))] [] t) (va_A [(h0, .inr (7, [.int i_thrown, .int 0, .int i_lasts, v_buffer, .int i_size, .int i_documents, v_gone, v_first, v_many, v_lengths, v_authors, v_sums, v_row, v_made, .int i_madeSize, v_base, .int i_baseSize, v_text, .int i_textSize, .int i_textSteps, v_other, .int i_otherSize, v_piece, .int i_pieceSize, .int i_at, .int i_end, .int i_value]))] sz)) 0 0 (va_A [(h0, .inr (7, [.int i_thrown, .int 0, .int i_lasts, v_buffer, .int i_size, .int i_documents, v_gone, v_first, v_many, v_lengths, v_authors, v_sums, v_row, v_made, .int i_madeSize, v_base, .int i_baseSize, v_text, .int i_textSize, .int i_textSteps, v_other, .int i_otherSize, v_piece, .int i_pieceSize, .int i_at, .int i_end, .int i_value]))] sz) := by
  refine Met.ofW (cc := prog_9_method_41_code) (maxL := 2) (ret := (some .boolean)) (by decide) rfl ?_
  intro p e s m args below meth c s₁ B hml hv
  obtain ⟨rfl, hsz, hP, hK, hD0, hN⟩ := hv
  have hx := B.exec
  have hb := B.bytes
  have hr := B.returns
  have hts := atoms_spec (ws := k_O_start) B.pre
  have hw0 : ∀ w ∈ w0, w.before _ s = true := fun w h => hts w (List.mem_cons_of_mem _ h)
  have hown : s.vm.findClass R_O = some m.cls := findClass_of_methodNamed B.named
  have hlocks := B.notSynchronized
  subst hsz
  have hD := hD0.self (sz := s.heap.size)
  generalize hAe : va_A [(h0, .inr (7, [.int i_thrown, .int 0, .int i_lasts, v_buffer, .int i_size, .int i_documents, v_gone, v_first, v_many, v_lengths, v_authors, v_sums, v_row, v_made, .int i_madeSize, v_base, .int i_baseSize, v_text, .int i_textSize, .int i_textSteps, v_other, .int i_otherSize, v_piece, .int i_pieceSize, .int i_at, .int i_end, .int i_value]))] s.heap.size = A at hD ⊢
  have hA : ∀ q : Nat, s.heap.size ≤ q → A q := fun q h => by rw [← hAe]; exact Or.inr h
  have hS : va_S A s.heap s.heap [] := va_S.rf
  have hP : va_P (dC, dI) vwCl [(h0, .inr (7, [.int i_thrown, .int 0, .int i_lasts, v_buffer, .int i_size, .int i_documents, v_gone, v_first, v_many, v_lengths, v_authors, v_sums, v_row, v_made, .int i_madeSize, v_base, .int i_baseSize, v_text, .int i_textSize, .int i_textSteps, v_other, .int i_otherSize, v_piece, .int i_pieceSize, .int i_at, .int i_end, .int i_value]))] s.heap := hP
  have hl := lv_entry ([.ref h0]) (n := 2) (Nat.le_of_ble_eq_true rfl)
  rw [lg_entry_eq]
  generalize (lg_sl ([.ref h0]) ++ List.replicate (2 - (lg_sl ([.ref h0])).length) Slot.unset).toArray = ls at hl ⊢
  have hl : lv_has ls 2 [(0, .ref h0)] := hl
  refine lv_aload_n hx hb d_O_start_0 rfl (lv_at hl 0 rfl) ?_
  refine lv_iconst (v := 0) hx hb d_O_start_1 (by decide) ?_
  refine va_put (D := (dC, dI)) (ci := 7) (v := .int 0) (ty := .int) (C := R_O) (T := F_O) (N := 27) hx hb hw0 in_O ft_O tk_O nk_O hown hK hP hD hS 0 rfl rfl 0 (by decide) (hw0 (.fieldLink R_O 62 "TextKeeperModel" "thrown" "I") (List.mem_of_getElem? (i := 168) rfl)) (fun _ h9 => h9) rfl (by decide +kernel) rfl rfl (Nat.le_of_ble_eq_true rfl) d_O_start_2 (fun H locs hP hD hS => ?_)
  replace hP : va_P (dC, dI) vwCl [(h0, .inr (7, [.int 0, .int 0, .int i_lasts, v_buffer, .int i_size, .int i_documents, v_gone, v_first, v_many, v_lengths, v_authors, v_sums, v_row, v_made, .int i_madeSize, v_base, .int i_baseSize, v_text, .int i_textSize, .int i_textSteps, v_other, .int i_otherSize, v_piece, .int i_pieceSize, .int i_at, .int i_end, .int i_value]))] H := hP
  replace hD : va_D A [(h0, .inr (7, [.int 0, .int 0, .int i_lasts, v_buffer, .int i_size, .int i_documents, v_gone, v_first, v_many, v_lengths, v_authors, v_sums, v_row, v_made, .int i_madeSize, v_base, .int i_baseSize, v_text, .int i_textSize, .int i_textSteps, v_other, .int i_otherSize, v_piece, .int i_pieceSize, .int i_at, .int i_end, .int i_value]))] := hD
  refine lv_aload_n hx hb d_O_start_5 rfl (lv_at hl 0 rfl) ?_
  refine va_get (D := (dC, dI)) (ci := 7) (v := .int 0) (C := R_O) (T := F_O) (N := 27) hx hb hw0 in_O hown hK hP 0 rfl rfl 1 (by decide) (hw0 (.fieldLink R_O 65 "TextKeeperModel" "down" "Z") (List.mem_of_getElem? (i := 167) rfl)) (fun _ h9 => h9) rfl d_O_start_6 ?_
  refine lv_istore_n (lv' := [(1, .int 0), (0, .ref h0)]) hx hb d_O_start_9 rfl hl (by decide) rfl (fun ls hl => ?_)
  refine lv_aload_n hx hb d_O_start_10 rfl (lv_at hl 1 rfl) ?_
  refine lv_iconst (v := 0) hx hb d_O_start_11 (by decide) ?_
  refine va_put (D := (dC, dI)) (ci := 7) (v := .int 0) (ty := .boolean) (C := R_O) (T := F_O) (N := 27) hx hb hw0 in_O ft_O tk_O nk_O hown hK hP hD hS 0 rfl rfl 1 (by decide) (hw0 (.fieldLink R_O 65 "TextKeeperModel" "down" "Z") (List.mem_of_getElem? (i := 167) rfl)) (fun _ h9 => h9) rfl (by decide +kernel) rfl rfl (Nat.le_of_ble_eq_true rfl) d_O_start_12 (fun H locs hP hD hS => ?_)
  replace hP : va_P (dC, dI) vwCl [(h0, .inr (7, [.int 0, .int 0, .int i_lasts, v_buffer, .int i_size, .int i_documents, v_gone, v_first, v_many, v_lengths, v_authors, v_sums, v_row, v_made, .int i_madeSize, v_base, .int i_baseSize, v_text, .int i_textSize, .int i_textSteps, v_other, .int i_otherSize, v_piece, .int i_pieceSize, .int i_at, .int i_end, .int i_value]))] H := hP
  replace hD : va_D A [(h0, .inr (7, [.int 0, .int 0, .int i_lasts, v_buffer, .int i_size, .int i_documents, v_gone, v_first, v_many, v_lengths, v_authors, v_sums, v_row, v_made, .int i_madeSize, v_base, .int i_baseSize, v_text, .int i_textSize, .int i_textSteps, v_other, .int i_otherSize, v_piece, .int i_pieceSize, .int i_at, .int i_end, .int i_value]))] := hD
  refine lv_aload_n hx hb d_O_start_15 rfl (lv_at hl 1 rfl) ?_
  refine lv_iload_n hx hb d_O_start_16 rfl (lv_at hl 0 rfl) ?_
  refine lv_if_eq (tgt := 24) hx hb d_O_start_17 (by decide) (fun _ => ?_) (fun h9 => absurd h9 (by decide +kernel))
  refine lv_aload_n hx hb d_O_start_24 rfl (lv_at hl 1 rfl) ?_
  refine va_get (D := (dC, dI)) (ci := 7) (v := .int i_lasts) (C := R_O) (T := F_O) (N := 27) hx hb hw0 in_O hown hK hP 0 rfl rfl 2 (by decide) (hw0 (.fieldLink R_O 9 "TextKeeperModel" "lasts" "I") (List.mem_of_getElem? (i := 175) rfl)) (fun _ h9 => h9) rfl d_O_start_25 ?_
  refine va_put (D := (dC, dI)) (ci := 7) (v := .int i_lasts) (ty := .int) (C := R_O) (T := F_O) (N := 27) hx hb hw0 in_O ft_O tk_O nk_O hown hK hP hD hS 0 rfl rfl 2 (by decide) (hw0 (.fieldLink R_O 9 "TextKeeperModel" "lasts" "I") (List.mem_of_getElem? (i := 175) rfl)) (fun _ h9 => h9) rfl (by decide +kernel) rfl rfl (Nat.le_of_ble_eq_true rfl) d_O_start_28 (fun H locs hP hD hS => ?_)
  replace hP : va_P (dC, dI) vwCl [(h0, .inr (7, [.int 0, .int 0, .int i_lasts, v_buffer, .int i_size, .int i_documents, v_gone, v_first, v_many, v_lengths, v_authors, v_sums, v_row, v_made, .int i_madeSize, v_base, .int i_baseSize, v_text, .int i_textSize, .int i_textSteps, v_other, .int i_otherSize, v_piece, .int i_pieceSize, .int i_at, .int i_end, .int i_value]))] H := hP
  replace hD : va_D A [(h0, .inr (7, [.int 0, .int 0, .int i_lasts, v_buffer, .int i_size, .int i_documents, v_gone, v_first, v_many, v_lengths, v_authors, v_sums, v_row, v_made, .int i_madeSize, v_base, .int i_baseSize, v_text, .int i_textSize, .int i_textSteps, v_other, .int i_otherSize, v_piece, .int i_pieceSize, .int i_at, .int i_end, .int i_value]))] := hD
  refine lv_iload_n hx hb d_O_start_31 rfl (lv_at hl 0 rfl) ?_
  have hP9 := hP.sub (ws' := [(h0, .inr (7, [.int 0, .int 0, .int i_lasts, v_buffer, .int i_size, .int i_documents, v_gone, v_first, v_many, v_lengths, v_authors, v_sums, v_row, v_made, .int i_madeSize, v_base, .int i_baseSize, v_text, .int i_textSize, .int i_textSteps, v_other, .int i_otherSize, v_piece, .int i_pieceSize, .int i_at, .int i_end, .int i_value]))]) [0] rfl
  have hD9 := hD.sub (ws' := [(h0, .inr (7, [.int 0, .int 0, .int i_lasts, v_buffer, .int i_size, .int i_documents, v_gone, v_first, v_many, v_lengths, v_authors, v_sums, v_row, v_made, .int i_madeSize, v_base, .int i_baseSize, v_text, .int i_textSize, .int i_textSteps, v_other, .int i_otherSize, v_piece, .int i_pieceSize, .int i_at, .int i_end, .int i_value]))]) [0] (by decide) rfl
  have hK9 := hK.sub (tys' := []) [] rfl
  exact W.zret (v := 0) (ty := .boolean) hx hb hr rfl (fun t ht hW => ⟨⟨0, (), rfl, rfl, by rw [ht]; exact hP9, va_K.moved hW.alike hK9, hD9⟩, hS.F ht⟩) hS.2.2 d_O_start_32
set_option maxHeartbeats 4000000 in
set_option maxRecDepth 100000 in
theorem m_isDown (l : Launch) (dC : Nat → ClassId) (dI : Nat → Nat → Nat) (sz : Nat) (h0 : Nat) (i_thrown : Int32) (i_lasts : Int32) (v_buffer : Value) (i_size : Int32) (i_documents : Int32) (v_gone : Value) (v_first : Value) (v_many : Value) (v_lengths : Value) (v_authors : Value) (v_sums : Value) (v_row : Value) (v_made : Value) (i_madeSize : Int32) (v_base : Value) (i_baseSize : Int32) (v_text : Value) (i_textSize : Int32) (i_textSteps : Int32) (v_other : Value) (i_otherSize : Int32) (v_piece : Value) (i_pieceSize : Int32) (i_at : Int32) (i_end : Int32) (i_value : Int32)  : Met l y_O_isDown k_O_isDown ({ frames := 0, cells := 0, slots := 0, locals := 0 } : Room) (va_Pc [.ref h0] (pc_E (dC, dI) [(h0, .inr (7, [.int i_thrown, .int 0, .int i_lasts, v_buffer, .int i_size, .int i_documents, v_gone, v_first, v_many, v_lengths, v_authors, v_sums, v_row, v_made, .int i_madeSize, v_base, .int i_baseSize, v_text, .int i_textSize, .int i_textSteps, v_other, .int i_otherSize, v_piece, .int i_pieceSize, .int i_at, .int i_end, .int i_value]))] [] sz)) (va_Qi (fun (r : Int32) (_ : Unit) => r = 0) (fun (_ : Unit) t => at_E (dC, dI) (va_A [(h0, .inr (7, [.int i_thrown, .int 0, .int i_lasts, v_buffer, .int i_size, .int i_documents, v_gone, v_first, v_many, v_lengths, v_authors, v_sums, v_row, v_made, .int i_madeSize, v_base, .int i_baseSize, v_text, .int i_textSize, .int i_textSteps, v_other, .int i_otherSize, v_piece, .int i_pieceSize, .int i_at, .int i_end, .int i_value]))] sz) [(h0, .inr (7, [.int 0, .int 0, .int i_lasts, v_buffer, .int i_size, .int i_documents, v_gone, v_first, v_many, v_lengths, v_authors, v_sums, v_row, v_made, .int i_madeSize, v_base, .int i_baseSize, v_text, .int i_textSize, .int i_textSteps, v_other, .int i_otherSize, v_piece, .int i_pieceSize, .int i_at, .int i_end, .int i_value]))] [] t) (va_A [(h0, .inr (7, [.int i_thrown, .int 0, .int i_lasts, v_buffer, .int i_size, .int i_documents, v_gone, v_first, v_many, v_lengths, v_authors, v_sums, v_row, v_made, .int i_madeSize, v_base, .int i_baseSize, v_text, .int i_textSize, .int i_textSteps, v_other, .int i_otherSize, v_piece, .int i_pieceSize, .int i_at, .int i_end, .int i_value]))] sz)) 0 0 (va_A [(h0, .inr (7, [.int i_thrown, .int 0, .int i_lasts, v_buffer, .int i_size, .int i_documents, v_gone, v_first, v_many, v_lengths, v_authors, v_sums, v_row, v_made, .int i_madeSize, v_base, .int i_baseSize, v_text, .int i_textSize, .int i_textSteps, v_other, .int i_otherSize, v_piece, .int i_pieceSize, .int i_at, .int i_end, .int i_value]))] sz) := by
  refine Met.ofW (cc := prog_9_method_42_code) (maxL := 1) (ret := (some .boolean)) (by decide) rfl ?_
  intro p e s m args below meth c s₁ B hml hv
  obtain ⟨rfl, hsz, hP, hK, hD0, hN⟩ := hv
  have hx := B.exec
  have hb := B.bytes
  have hr := B.returns
  have hts := atoms_spec (ws := k_O_isDown) B.pre
  have hw0 : ∀ w ∈ w0, w.before _ s = true := fun w h => hts w (List.mem_cons_of_mem _ h)
  have hown : s.vm.findClass R_O = some m.cls := findClass_of_methodNamed B.named
  have hlocks := B.notSynchronized
  subst hsz
  have hD := hD0.self (sz := s.heap.size)
  generalize hAe : va_A [(h0, .inr (7, [.int i_thrown, .int 0, .int i_lasts, v_buffer, .int i_size, .int i_documents, v_gone, v_first, v_many, v_lengths, v_authors, v_sums, v_row, v_made, .int i_madeSize, v_base, .int i_baseSize, v_text, .int i_textSize, .int i_textSteps, v_other, .int i_otherSize, v_piece, .int i_pieceSize, .int i_at, .int i_end, .int i_value]))] s.heap.size = A at hD ⊢
  have hA : ∀ q : Nat, s.heap.size ≤ q → A q := fun q h => by rw [← hAe]; exact Or.inr h
  have hS : va_S A s.heap s.heap [] := va_S.rf
  have hP : va_P (dC, dI) vwCl [(h0, .inr (7, [.int i_thrown, .int 0, .int i_lasts, v_buffer, .int i_size, .int i_documents, v_gone, v_first, v_many, v_lengths, v_authors, v_sums, v_row, v_made, .int i_madeSize, v_base, .int i_baseSize, v_text, .int i_textSize, .int i_textSteps, v_other, .int i_otherSize, v_piece, .int i_pieceSize, .int i_at, .int i_end, .int i_value]))] s.heap := hP
  have hl := lv_entry ([.ref h0]) (n := 1) (Nat.le_of_ble_eq_true rfl)
  rw [lg_entry_eq]
  generalize (lg_sl ([.ref h0]) ++ List.replicate (1 - (lg_sl ([.ref h0])).length) Slot.unset).toArray = ls at hl ⊢
  have hl : lv_has ls 1 [(0, .ref h0)] := hl
  refine lv_aload_n hx hb d_O_isDown_0 rfl (lv_at hl 0 rfl) ?_
  refine lv_iconst (v := 0) hx hb d_O_isDown_1 (by decide) ?_
  refine va_put (D := (dC, dI)) (ci := 7) (v := .int 0) (ty := .int) (C := R_O) (T := F_O) (N := 27) hx hb hw0 in_O ft_O tk_O nk_O hown hK hP hD hS 0 rfl rfl 0 (by decide) (hw0 (.fieldLink R_O 62 "TextKeeperModel" "thrown" "I") (List.mem_of_getElem? (i := 168) rfl)) (fun _ h9 => h9) rfl (by decide +kernel) rfl rfl (Nat.le_of_ble_eq_true rfl) d_O_isDown_2 (fun H locs hP hD hS => ?_)
  replace hP : va_P (dC, dI) vwCl [(h0, .inr (7, [.int 0, .int 0, .int i_lasts, v_buffer, .int i_size, .int i_documents, v_gone, v_first, v_many, v_lengths, v_authors, v_sums, v_row, v_made, .int i_madeSize, v_base, .int i_baseSize, v_text, .int i_textSize, .int i_textSteps, v_other, .int i_otherSize, v_piece, .int i_pieceSize, .int i_at, .int i_end, .int i_value]))] H := hP
  replace hD : va_D A [(h0, .inr (7, [.int 0, .int 0, .int i_lasts, v_buffer, .int i_size, .int i_documents, v_gone, v_first, v_many, v_lengths, v_authors, v_sums, v_row, v_made, .int i_madeSize, v_base, .int i_baseSize, v_text, .int i_textSize, .int i_textSteps, v_other, .int i_otherSize, v_piece, .int i_pieceSize, .int i_at, .int i_end, .int i_value]))] := hD
  refine lv_aload_n hx hb d_O_isDown_5 rfl (lv_at hl 0 rfl) ?_
  refine va_get (D := (dC, dI)) (ci := 7) (v := .int 0) (C := R_O) (T := F_O) (N := 27) hx hb hw0 in_O hown hK hP 0 rfl rfl 1 (by decide) (hw0 (.fieldLink R_O 65 "TextKeeperModel" "down" "Z") (List.mem_of_getElem? (i := 167) rfl)) (fun _ h9 => h9) rfl d_O_isDown_6 ?_
  have hP9 := hP.sub (ws' := [(h0, .inr (7, [.int 0, .int 0, .int i_lasts, v_buffer, .int i_size, .int i_documents, v_gone, v_first, v_many, v_lengths, v_authors, v_sums, v_row, v_made, .int i_madeSize, v_base, .int i_baseSize, v_text, .int i_textSize, .int i_textSteps, v_other, .int i_otherSize, v_piece, .int i_pieceSize, .int i_at, .int i_end, .int i_value]))]) [0] rfl
  have hD9 := hD.sub (ws' := [(h0, .inr (7, [.int 0, .int 0, .int i_lasts, v_buffer, .int i_size, .int i_documents, v_gone, v_first, v_many, v_lengths, v_authors, v_sums, v_row, v_made, .int i_madeSize, v_base, .int i_baseSize, v_text, .int i_textSize, .int i_textSteps, v_other, .int i_otherSize, v_piece, .int i_pieceSize, .int i_at, .int i_end, .int i_value]))]) [0] (by decide) rfl
  have hK9 := hK.sub (tys' := []) [] rfl
  exact W.zret (v := 0) (ty := .boolean) hx hb hr rfl (fun t ht hW => ⟨⟨0, (), rfl, rfl, by rw [ht]; exact hP9, va_K.moved hW.alike hK9, hD9⟩, hS.F ht⟩) hS.2.2 d_O_isDown_9
set_option maxHeartbeats 4000000 in
set_option maxRecDepth 100000 in
theorem m_end_T (l : Launch) (dC : Nat → ClassId) (dI : Nat → Nat → Nat) (sz : Nat) (h0 : Nat) (i_thrown : Int32) (i_lasts : Int32) (v_buffer : Value) (i_documents : Int32) (v_gone : Value) (v_first : Value) (v_many : Value) (v_lengths : Value) (v_authors : Value) (v_sums : Value) (v_row : Value) (v_made : Value) (i_madeSize : Int32) (v_base : Value) (i_baseSize : Int32) (v_text : Value) (i_textSize : Int32) (i_textSteps : Int32) (v_other : Value) (i_otherSize : Int32) (v_piece : Value) (i_pieceSize : Int32) (i_at : Int32) (i_end : Int32) (i_value : Int32) (a1 : Int32) (h1 : ¬ a1 < 0) (h2 : ¬ 0 < a1) : Met l y_O_end k_O_end ({ frames := 1, cells := 0, slots := 0, locals := 21 } : Room) (va_Pc [.ref h0, .int a1] (pc_E (dC, dI) [(h0, .inr (7, [.int i_thrown, .int 0, .int i_lasts, v_buffer, .int 0, .int i_documents, v_gone, v_first, v_many, v_lengths, v_authors, v_sums, v_row, v_made, .int i_madeSize, v_base, .int i_baseSize, v_text, .int i_textSize, .int i_textSteps, v_other, .int i_otherSize, v_piece, .int i_pieceSize, .int i_at, .int i_end, .int i_value]))] [] sz)) (va_Qi (fun (r : Int32) (_ : Unit) => r = 1) (fun (_ : Unit) t => at_E (dC, dI) (va_A [(h0, .inr (7, [.int i_thrown, .int 0, .int i_lasts, v_buffer, .int 0, .int i_documents, v_gone, v_first, v_many, v_lengths, v_authors, v_sums, v_row, v_made, .int i_madeSize, v_base, .int i_baseSize, v_text, .int i_textSize, .int i_textSteps, v_other, .int i_otherSize, v_piece, .int i_pieceSize, .int i_at, .int i_end, .int i_value]))] sz) [(h0, .inr (7, [.int 0, .int 0, .int i_lasts, v_buffer, .int a1, .int i_documents, v_gone, v_first, v_many, v_lengths, v_authors, v_sums, v_row, v_made, .int i_madeSize, v_base, .int i_baseSize, v_text, .int i_textSize, .int i_textSteps, v_other, .int i_otherSize, v_piece, .int i_pieceSize, .int i_at, .int i_end, .int i_value]))] [] t) (va_A [(h0, .inr (7, [.int i_thrown, .int 0, .int i_lasts, v_buffer, .int 0, .int i_documents, v_gone, v_first, v_many, v_lengths, v_authors, v_sums, v_row, v_made, .int i_madeSize, v_base, .int i_baseSize, v_text, .int i_textSize, .int i_textSteps, v_other, .int i_otherSize, v_piece, .int i_pieceSize, .int i_at, .int i_end, .int i_value]))] sz)) 0 0 (va_A [(h0, .inr (7, [.int i_thrown, .int 0, .int i_lasts, v_buffer, .int 0, .int i_documents, v_gone, v_first, v_many, v_lengths, v_authors, v_sums, v_row, v_made, .int i_madeSize, v_base, .int i_baseSize, v_text, .int i_textSize, .int i_textSteps, v_other, .int i_otherSize, v_piece, .int i_pieceSize, .int i_at, .int i_end, .int i_value]))] sz) := by
  refine Met.ofW (cc := prog_9_method_6_code) (maxL := 2) (ret := (some .boolean)) (by decide) rfl ?_
  intro p e s m args below meth c s₁ B hml hv
  obtain ⟨rfl, hsz, hP, hK, hD0, hN⟩ := hv
  have hx := B.exec
  have hb := B.bytes
  have hr := B.returns
  have hts := atoms_spec (ws := k_O_end) B.pre
  have hw0 : ∀ w ∈ w0, w.before _ s = true := fun w h => hts w (List.mem_cons_of_mem _ h)
  have hown : s.vm.findClass R_O = some m.cls := findClass_of_methodNamed B.named
  have hlocks := B.notSynchronized
  subst hsz
  have hD := hD0.self (sz := s.heap.size)
  generalize hAe : va_A [(h0, .inr (7, [.int i_thrown, .int 0, .int i_lasts, v_buffer, .int 0, .int i_documents, v_gone, v_first, v_many, v_lengths, v_authors, v_sums, v_row, v_made, .int i_madeSize, v_base, .int i_baseSize, v_text, .int i_textSize, .int i_textSteps, v_other, .int i_otherSize, v_piece, .int i_pieceSize, .int i_at, .int i_end, .int i_value]))] s.heap.size = A at hD ⊢
  have hA : ∀ q : Nat, s.heap.size ≤ q → A q := fun q h => by rw [← hAe]; exact Or.inr h
  have hS : va_S A s.heap s.heap [] := va_S.rf
  have hP : va_P (dC, dI) vwCl [(h0, .inr (7, [.int i_thrown, .int 0, .int i_lasts, v_buffer, .int 0, .int i_documents, v_gone, v_first, v_many, v_lengths, v_authors, v_sums, v_row, v_made, .int i_madeSize, v_base, .int i_baseSize, v_text, .int i_textSize, .int i_textSteps, v_other, .int i_otherSize, v_piece, .int i_pieceSize, .int i_at, .int i_end, .int i_value]))] s.heap := hP
  have hl := lv_entry ([.ref h0, .int a1]) (n := 2) (Nat.le_of_ble_eq_true rfl)
  rw [lg_entry_eq]
  generalize (lg_sl ([.ref h0, .int a1]) ++ List.replicate (2 - (lg_sl ([.ref h0, .int a1])).length) Slot.unset).toArray = ls at hl ⊢
  have hl : lv_has ls 2 [(0, .ref h0), (1, .int a1)] := hl
  refine lv_aload_n hx hb d_O_end_0 rfl (lv_at hl 0 rfl) ?_
  refine lv_iconst (v := 1) hx hb d_O_end_1 (by decide) ?_
  have hPc := hP.sub (ws' := [(h0, .inr (7, [.int i_thrown, .int 0, .int i_lasts, v_buffer, .int 0, .int i_documents, v_gone, v_first, v_many, v_lengths, v_authors, v_sums, v_row, v_made, .int i_madeSize, v_base, .int i_baseSize, v_text, .int i_textSize, .int i_textSteps, v_other, .int i_otherSize, v_piece, .int i_pieceSize, .int i_at, .int i_end, .int i_value]))]) [0] rfl
  have hKc := hK.sub (tys' := []) [] rfl
  have hDc := hD.sub (ws' := [(h0, .inr (7, [.int i_thrown, .int 0, .int i_lasts, v_buffer, .int 0, .int i_documents, v_gone, v_first, v_many, v_lengths, v_authors, v_sums, v_row, v_made, .int i_madeSize, v_base, .int i_baseSize, v_text, .int i_textSize, .int i_textSteps, v_other, .int i_otherSize, v_piece, .int i_pieceSize, .int i_at, .int i_end, .int i_value]))]) [0] (by decide) rfl
  have hFc := va_free (wc := [(h0, .inr (7, [.int i_thrown, .int 0, .int i_lasts, v_buffer, .int 0, .int i_documents, v_gone, v_first, v_many, v_lengths, v_authors, v_sums, v_row, v_made, .int i_madeSize, v_base, .int i_baseSize, v_text, .int i_textSize, .int i_textSteps, v_other, .int i_otherSize, v_piece, .int i_pieceSize, .int i_at, .int i_end, .int i_value]))]) hD hS hA [0] rfl
  refine va_calli (va_runV (As := [.int 1]) (rest := []) ⟨hx, hb, hml, hown, hw0⟩ (m_runs l dC dI s.heap.size h0 i_thrown i_lasts v_buffer 0 i_documents v_gone v_first v_many v_lengths v_authors v_sums v_row v_made i_madeSize v_base i_baseSize v_text i_textSize i_textSteps v_other i_otherSize v_piece i_pieceSize i_at i_end i_value 1) (cwV 1 hw0 (gd_V 176 177 178 173 179 rfl rfl rfl rfl rfl) rfl rfl rfl (by decide +kernel) ⟨by decide +kernel, by decide +kernel⟩) (prV_E hPc hKc hDc hN (va_recv hKc hPc (ci := 7) (q0 := 0) rfl rfl)) rfl rfl hl.1 rfl (lv_room (Nat.le_of_ble_eq_true rfl)) d_O_end_2 ⟨by decide +kernel, by decide +kernel⟩) hS (fun q _ h => hFc q h) hFc (fun r_1 u t H1 locs ht hvm hw hB hz1 hk1 hS => ?_)
  obtain ⟨hP1, hK1, hD1⟩ := hB
  rw [ht] at hP1
  have hK1 := va_K.moved hvm.symm hK1
  try dsimp only at hw
  obtain ⟨hP, hD⟩ := va_join (wr := []) (w1 := [(h0, .inr (7, [.int 0, .int 0, .int i_lasts, v_buffer, .int 0, .int i_documents, v_gone, v_first, v_many, v_lengths, v_authors, v_sums, v_row, v_made, .int i_madeSize, v_base, .int i_baseSize, v_text, .int i_textSize, .int i_textSteps, v_other, .int i_otherSize, v_piece, .int i_pieceSize, .int i_at, .int i_end, .int i_value]))]) hP hD [0] [] rfl rfl (by decide) (by decide) hk1 hFc hP1 hD1
  generalize H1 = H at hP hS ⊢
  replace hP : va_P (dC, dI) vwCl [(h0, .inr (7, [.int 0, .int 0, .int i_lasts, v_buffer, .int 0, .int i_documents, v_gone, v_first, v_many, v_lengths, v_authors, v_sums, v_row, v_made, .int i_madeSize, v_base, .int i_baseSize, v_text, .int i_textSize, .int i_textSteps, v_other, .int i_otherSize, v_piece, .int i_pieceSize, .int i_at, .int i_end, .int i_value]))] H := hP
  replace hD : va_D A [(h0, .inr (7, [.int 0, .int 0, .int i_lasts, v_buffer, .int 0, .int i_documents, v_gone, v_first, v_many, v_lengths, v_authors, v_sums, v_row, v_made, .int i_madeSize, v_base, .int i_baseSize, v_text, .int i_textSize, .int i_textSteps, v_other, .int i_otherSize, v_piece, .int i_pieceSize, .int i_at, .int i_end, .int i_value]))] := hD
  replace hK : va_K (dC, dI) vwCl [] s := hK
  obtain rfl : r_1 = 1 := hw
  refine lv_if_eq (tgt := 20) hx hb d_O_end_5 (by decide) (fun h9 => absurd h9 (by decide +kernel)) (fun _ => ?_)
  refine lv_iload_n hx hb d_O_end_8 rfl (lv_at hl 1 rfl) ?_
  refine lv_if_lt (tgt := 20) hx hb d_O_end_9 (by decide) (fun c_3 => absurd c_3 h1) (fun c_3 => ?_)
  refine lv_iload_n hx hb d_O_end_12 rfl (lv_at hl 1 rfl) ?_
  refine lv_aload_n hx hb d_O_end_13 rfl (lv_at hl 0 rfl) ?_
  refine va_get (D := (dC, dI)) (ci := 7) (v := .int 0) (C := R_O) (T := F_O) (N := 27) hx hb hw0 in_O hown hK hP 0 rfl rfl 4 (by decide) (hw0 (.fieldLink R_O 69 "TextKeeperModel" "size" "I") (List.mem_of_getElem? (i := 194) rfl)) (fun _ h9 => h9) rfl d_O_end_14 ?_
  refine lv_icmp_le (tgt := 22) hx hb d_O_end_17 (by decide) (fun c_4 => ?_) (fun c_4 => absurd (Int32.not_lt.mp h2) c_4)
  refine lv_aload_n hx hb d_O_end_22 rfl (lv_at hl 0 rfl) ?_
  refine lv_iload_n hx hb d_O_end_23 rfl (lv_at hl 1 rfl) ?_
  refine va_put (D := (dC, dI)) (ci := 7) (v := .int a1) (ty := .int) (C := R_O) (T := F_O) (N := 27) hx hb hw0 in_O ft_O tk_O nk_O hown hK hP hD hS 0 rfl rfl 4 (by decide) (hw0 (.fieldLink R_O 69 "TextKeeperModel" "size" "I") (List.mem_of_getElem? (i := 194) rfl)) (fun _ h9 => h9) rfl (by decide +kernel) rfl rfl (Nat.le_of_ble_eq_true rfl) d_O_end_24 (fun H locs hP hD hS => ?_)
  replace hP : va_P (dC, dI) vwCl [(h0, .inr (7, [.int 0, .int 0, .int i_lasts, v_buffer, .int a1, .int i_documents, v_gone, v_first, v_many, v_lengths, v_authors, v_sums, v_row, v_made, .int i_madeSize, v_base, .int i_baseSize, v_text, .int i_textSize, .int i_textSteps, v_other, .int i_otherSize, v_piece, .int i_pieceSize, .int i_at, .int i_end, .int i_value]))] H := hP
  replace hD : va_D A [(h0, .inr (7, [.int 0, .int 0, .int i_lasts, v_buffer, .int a1, .int i_documents, v_gone, v_first, v_many, v_lengths, v_authors, v_sums, v_row, v_made, .int i_madeSize, v_base, .int i_baseSize, v_text, .int i_textSize, .int i_textSteps, v_other, .int i_otherSize, v_piece, .int i_pieceSize, .int i_at, .int i_end, .int i_value]))] := hD
  refine lv_iconst (v := 1) hx hb d_O_end_27 (by decide) ?_
  have hP9 := hP.sub (ws' := [(h0, .inr (7, [.int 0, .int 0, .int i_lasts, v_buffer, .int a1, .int i_documents, v_gone, v_first, v_many, v_lengths, v_authors, v_sums, v_row, v_made, .int i_madeSize, v_base, .int i_baseSize, v_text, .int i_textSize, .int i_textSteps, v_other, .int i_otherSize, v_piece, .int i_pieceSize, .int i_at, .int i_end, .int i_value]))]) [0] rfl
  have hD9 := hD.sub (ws' := [(h0, .inr (7, [.int 0, .int 0, .int i_lasts, v_buffer, .int a1, .int i_documents, v_gone, v_first, v_many, v_lengths, v_authors, v_sums, v_row, v_made, .int i_madeSize, v_base, .int i_baseSize, v_text, .int i_textSize, .int i_textSteps, v_other, .int i_otherSize, v_piece, .int i_pieceSize, .int i_at, .int i_end, .int i_value]))]) [0] (by decide) rfl
  have hK9 := hK.sub (tys' := []) [] rfl
  exact W.zret (v := 1) (ty := .boolean) hx hb hr rfl (fun t ht hW => ⟨⟨1, (), rfl, rfl, by rw [ht]; exact hP9, va_K.moved hW.alike hK9, hD9⟩, hS.F ht⟩) hS.2.2 d_O_end_28
set_option maxHeartbeats 4000000 in
set_option maxRecDepth 100000 in
theorem m_end_F (l : Launch) (dC : Nat → ClassId) (dI : Nat → Nat → Nat) (sz : Nat) (h0 : Nat) (i_thrown : Int32) (i_lasts : Int32) (v_buffer : Value) (i_documents : Int32) (v_gone : Value) (v_first : Value) (v_many : Value) (v_lengths : Value) (v_authors : Value) (v_sums : Value) (v_row : Value) (v_made : Value) (i_madeSize : Int32) (v_base : Value) (i_baseSize : Int32) (v_text : Value) (i_textSize : Int32) (i_textSteps : Int32) (v_other : Value) (i_otherSize : Int32) (v_piece : Value) (i_pieceSize : Int32) (i_at : Int32) (i_end : Int32) (i_value : Int32) (a1 : Int32) (h1 : a1 < 0 ∨ 0 < a1) : Met l y_O_end k_O_end ({ frames := 1, cells := 0, slots := 0, locals := 21 } : Room) (va_Pc [.ref h0, .int a1] (pc_E (dC, dI) [(h0, .inr (7, [.int i_thrown, .int 0, .int i_lasts, v_buffer, .int 0, .int i_documents, v_gone, v_first, v_many, v_lengths, v_authors, v_sums, v_row, v_made, .int i_madeSize, v_base, .int i_baseSize, v_text, .int i_textSize, .int i_textSteps, v_other, .int i_otherSize, v_piece, .int i_pieceSize, .int i_at, .int i_end, .int i_value]))] [] sz)) (va_Qi (fun (r : Int32) (_ : Unit) => r = 0) (fun (_ : Unit) t => at_E (dC, dI) (va_A [(h0, .inr (7, [.int i_thrown, .int 0, .int i_lasts, v_buffer, .int 0, .int i_documents, v_gone, v_first, v_many, v_lengths, v_authors, v_sums, v_row, v_made, .int i_madeSize, v_base, .int i_baseSize, v_text, .int i_textSize, .int i_textSteps, v_other, .int i_otherSize, v_piece, .int i_pieceSize, .int i_at, .int i_end, .int i_value]))] sz) [(h0, .inr (7, [.int 0, .int 0, .int i_lasts, v_buffer, .int 0, .int i_documents, v_gone, v_first, v_many, v_lengths, v_authors, v_sums, v_row, v_made, .int i_madeSize, v_base, .int i_baseSize, v_text, .int i_textSize, .int i_textSteps, v_other, .int i_otherSize, v_piece, .int i_pieceSize, .int i_at, .int i_end, .int i_value]))] [] t) (va_A [(h0, .inr (7, [.int i_thrown, .int 0, .int i_lasts, v_buffer, .int 0, .int i_documents, v_gone, v_first, v_many, v_lengths, v_authors, v_sums, v_row, v_made, .int i_madeSize, v_base, .int i_baseSize, v_text, .int i_textSize, .int i_textSteps, v_other, .int i_otherSize, v_piece, .int i_pieceSize, .int i_at, .int i_end, .int i_value]))] sz)) 0 0 (va_A [(h0, .inr (7, [.int i_thrown, .int 0, .int i_lasts, v_buffer, .int 0, .int i_documents, v_gone, v_first, v_many, v_lengths, v_authors, v_sums, v_row, v_made, .int i_madeSize, v_base, .int i_baseSize, v_text, .int i_textSize, .int i_textSteps, v_other, .int i_otherSize, v_piece, .int i_pieceSize, .int i_at, .int i_end, .int i_value]))] sz) := by
  refine Met.ofW (cc := prog_9_method_6_code) (maxL := 2) (ret := (some .boolean)) (by decide) rfl ?_
  intro p e s m args below meth c s₁ B hml hv
  obtain ⟨rfl, hsz, hP, hK, hD0, hN⟩ := hv
  have hx := B.exec
  have hb := B.bytes
  have hr := B.returns
  have hts := atoms_spec (ws := k_O_end) B.pre
  have hw0 : ∀ w ∈ w0, w.before _ s = true := fun w h => hts w (List.mem_cons_of_mem _ h)
  have hown : s.vm.findClass R_O = some m.cls := findClass_of_methodNamed B.named
  have hlocks := B.notSynchronized
  subst hsz
  have hD := hD0.self (sz := s.heap.size)
  generalize hAe : va_A [(h0, .inr (7, [.int i_thrown, .int 0, .int i_lasts, v_buffer, .int 0, .int i_documents, v_gone, v_first, v_many, v_lengths, v_authors, v_sums, v_row, v_made, .int i_madeSize, v_base, .int i_baseSize, v_text, .int i_textSize, .int i_textSteps, v_other, .int i_otherSize, v_piece, .int i_pieceSize, .int i_at, .int i_end, .int i_value]))] s.heap.size = A at hD ⊢
  have hA : ∀ q : Nat, s.heap.size ≤ q → A q := fun q h => by rw [← hAe]; exact Or.inr h
  have hS : va_S A s.heap s.heap [] := va_S.rf
  have hP : va_P (dC, dI) vwCl [(h0, .inr (7, [.int i_thrown, .int 0, .int i_lasts, v_buffer, .int 0, .int i_documents, v_gone, v_first, v_many, v_lengths, v_authors, v_sums, v_row, v_made, .int i_madeSize, v_base, .int i_baseSize, v_text, .int i_textSize, .int i_textSteps, v_other, .int i_otherSize, v_piece, .int i_pieceSize, .int i_at, .int i_end, .int i_value]))] s.heap := hP
  have hl := lv_entry ([.ref h0, .int a1]) (n := 2) (Nat.le_of_ble_eq_true rfl)
  rw [lg_entry_eq]
  generalize (lg_sl ([.ref h0, .int a1]) ++ List.replicate (2 - (lg_sl ([.ref h0, .int a1])).length) Slot.unset).toArray = ls at hl ⊢
  have hl : lv_has ls 2 [(0, .ref h0), (1, .int a1)] := hl
  refine lv_aload_n hx hb d_O_end_0 rfl (lv_at hl 0 rfl) ?_
  refine lv_iconst (v := 1) hx hb d_O_end_1 (by decide) ?_
  have hPc := hP.sub (ws' := [(h0, .inr (7, [.int i_thrown, .int 0, .int i_lasts, v_buffer, .int 0, .int i_documents, v_gone, v_first, v_many, v_lengths, v_authors, v_sums, v_row, v_made, .int i_madeSize, v_base, .int i_baseSize, v_text, .int i_textSize, .int i_textSteps, v_other, .int i_otherSize, v_piece, .int i_pieceSize, .int i_at, .int i_end, .int i_value]))]) [0] rfl
  have hKc := hK.sub (tys' := []) [] rfl
  have hDc := hD.sub (ws' := [(h0, .inr (7, [.int i_thrown, .int 0, .int i_lasts, v_buffer, .int 0, .int i_documents, v_gone, v_first, v_many, v_lengths, v_authors, v_sums, v_row, v_made, .int i_madeSize, v_base, .int i_baseSize, v_text, .int i_textSize, .int i_textSteps, v_other, .int i_otherSize, v_piece, .int i_pieceSize, .int i_at, .int i_end, .int i_value]))]) [0] (by decide) rfl
  have hFc := va_free (wc := [(h0, .inr (7, [.int i_thrown, .int 0, .int i_lasts, v_buffer, .int 0, .int i_documents, v_gone, v_first, v_many, v_lengths, v_authors, v_sums, v_row, v_made, .int i_madeSize, v_base, .int i_baseSize, v_text, .int i_textSize, .int i_textSteps, v_other, .int i_otherSize, v_piece, .int i_pieceSize, .int i_at, .int i_end, .int i_value]))]) hD hS hA [0] rfl
  refine va_calli (va_runV (As := [.int 1]) (rest := []) ⟨hx, hb, hml, hown, hw0⟩ (m_runs l dC dI s.heap.size h0 i_thrown i_lasts v_buffer 0 i_documents v_gone v_first v_many v_lengths v_authors v_sums v_row v_made i_madeSize v_base i_baseSize v_text i_textSize i_textSteps v_other i_otherSize v_piece i_pieceSize i_at i_end i_value 1) (cwV 1 hw0 (gd_V 176 177 178 173 179 rfl rfl rfl rfl rfl) rfl rfl rfl (by decide +kernel) ⟨by decide +kernel, by decide +kernel⟩) (prV_E hPc hKc hDc hN (va_recv hKc hPc (ci := 7) (q0 := 0) rfl rfl)) rfl rfl hl.1 rfl (lv_room (Nat.le_of_ble_eq_true rfl)) d_O_end_2 ⟨by decide +kernel, by decide +kernel⟩) hS (fun q _ h => hFc q h) hFc (fun r_1 u t H1 locs ht hvm hw hB hz1 hk1 hS => ?_)
  obtain ⟨hP1, hK1, hD1⟩ := hB
  rw [ht] at hP1
  have hK1 := va_K.moved hvm.symm hK1
  try dsimp only at hw
  obtain ⟨hP, hD⟩ := va_join (wr := []) (w1 := [(h0, .inr (7, [.int 0, .int 0, .int i_lasts, v_buffer, .int 0, .int i_documents, v_gone, v_first, v_many, v_lengths, v_authors, v_sums, v_row, v_made, .int i_madeSize, v_base, .int i_baseSize, v_text, .int i_textSize, .int i_textSteps, v_other, .int i_otherSize, v_piece, .int i_pieceSize, .int i_at, .int i_end, .int i_value]))]) hP hD [0] [] rfl rfl (by decide) (by decide) hk1 hFc hP1 hD1
  generalize H1 = H at hP hS ⊢
  replace hP : va_P (dC, dI) vwCl [(h0, .inr (7, [.int 0, .int 0, .int i_lasts, v_buffer, .int 0, .int i_documents, v_gone, v_first, v_many, v_lengths, v_authors, v_sums, v_row, v_made, .int i_madeSize, v_base, .int i_baseSize, v_text, .int i_textSize, .int i_textSteps, v_other, .int i_otherSize, v_piece, .int i_pieceSize, .int i_at, .int i_end, .int i_value]))] H := hP
  replace hD : va_D A [(h0, .inr (7, [.int 0, .int 0, .int i_lasts, v_buffer, .int 0, .int i_documents, v_gone, v_first, v_many, v_lengths, v_authors, v_sums, v_row, v_made, .int i_madeSize, v_base, .int i_baseSize, v_text, .int i_textSize, .int i_textSteps, v_other, .int i_otherSize, v_piece, .int i_pieceSize, .int i_at, .int i_end, .int i_value]))] := hD
  replace hK : va_K (dC, dI) vwCl [] s := hK
  obtain rfl : r_1 = 1 := hw
  refine lv_if_eq (tgt := 20) hx hb d_O_end_5 (by decide) (fun h9 => absurd h9 (by decide +kernel)) (fun _ => ?_)
  refine lv_iload_n hx hb d_O_end_8 rfl (lv_at hl 1 rfl) ?_
  refine lv_if_lt (tgt := 20) hx hb d_O_end_9 (by decide) (fun c_3 => ?_) (fun c_3 => ?_)
  · refine lv_iconst (v := 0) hx hb d_O_end_20 (by decide) ?_
    have hP9 := hP.sub (ws' := [(h0, .inr (7, [.int 0, .int 0, .int i_lasts, v_buffer, .int 0, .int i_documents, v_gone, v_first, v_many, v_lengths, v_authors, v_sums, v_row, v_made, .int i_madeSize, v_base, .int i_baseSize, v_text, .int i_textSize, .int i_textSteps, v_other, .int i_otherSize, v_piece, .int i_pieceSize, .int i_at, .int i_end, .int i_value]))]) [0] rfl
    have hD9 := hD.sub (ws' := [(h0, .inr (7, [.int 0, .int 0, .int i_lasts, v_buffer, .int 0, .int i_documents, v_gone, v_first, v_many, v_lengths, v_authors, v_sums, v_row, v_made, .int i_madeSize, v_base, .int i_baseSize, v_text, .int i_textSize, .int i_textSteps, v_other, .int i_otherSize, v_piece, .int i_pieceSize, .int i_at, .int i_end, .int i_value]))]) [0] (by decide) rfl
    have hK9 := hK.sub (tys' := []) [] rfl
    exact W.zret (v := 0) (ty := .boolean) hx hb hr rfl (fun t ht hW => ⟨⟨0, (), rfl, rfl, by rw [ht]; exact hP9, va_K.moved hW.alike hK9, hD9⟩, hS.F ht⟩) hS.2.2 d_O_end_21
  · refine lv_iload_n hx hb d_O_end_12 rfl (lv_at hl 1 rfl) ?_
    refine lv_aload_n hx hb d_O_end_13 rfl (lv_at hl 0 rfl) ?_
    refine va_get (D := (dC, dI)) (ci := 7) (v := .int 0) (C := R_O) (T := F_O) (N := 27) hx hb hw0 in_O hown hK hP 0 rfl rfl 4 (by decide) (hw0 (.fieldLink R_O 69 "TextKeeperModel" "size" "I") (List.mem_of_getElem? (i := 194) rfl)) (fun _ h9 => h9) rfl d_O_end_14 ?_
    refine lv_icmp_le (tgt := 22) hx hb d_O_end_17 (by decide) (fun c_4 => absurd c_4 (fun h9 => h1.elim (fun h => c_3 h) (fun h => Int32.not_le.mpr h h9))) (fun c_4 => ?_)
    refine lv_iconst (v := 0) hx hb d_O_end_20 (by decide) ?_
    have hP9 := hP.sub (ws' := [(h0, .inr (7, [.int 0, .int 0, .int i_lasts, v_buffer, .int 0, .int i_documents, v_gone, v_first, v_many, v_lengths, v_authors, v_sums, v_row, v_made, .int i_madeSize, v_base, .int i_baseSize, v_text, .int i_textSize, .int i_textSteps, v_other, .int i_otherSize, v_piece, .int i_pieceSize, .int i_at, .int i_end, .int i_value]))]) [0] rfl
    have hD9 := hD.sub (ws' := [(h0, .inr (7, [.int 0, .int 0, .int i_lasts, v_buffer, .int 0, .int i_documents, v_gone, v_first, v_many, v_lengths, v_authors, v_sums, v_row, v_made, .int i_madeSize, v_base, .int i_baseSize, v_text, .int i_textSize, .int i_textSteps, v_other, .int i_otherSize, v_piece, .int i_pieceSize, .int i_at, .int i_end, .int i_value]))]) [0] (by decide) rfl
    have hK9 := hK.sub (tys' := []) [] rfl
    exact W.zret (v := 0) (ty := .boolean) hx hb hr rfl (fun t ht hW => ⟨⟨0, (), rfl, rfl, by rw [ht]; exact hP9, va_K.moved hW.alike hK9, hD9⟩, hS.F ht⟩) hS.2.2 d_O_end_21
set_option maxHeartbeats 4000000 in
set_option maxRecDepth 100000 in
theorem m_cutAfter_T (l : Launch) (dC : Nat → ClassId) (dI : Nat → Nat → Nat) (sz : Nat) (h0 : Nat) (i_thrown : Int32) (i_lasts : Int32) (v_buffer : Value) (i_size : Int32) (i_documents : Int32) (v_gone : Value) (v_first : Value) (v_many : Value) (v_lengths : Value) (v_authors : Value) (v_sums : Value) (v_row : Value) (v_made : Value) (i_madeSize : Int32) (v_base : Value) (i_baseSize : Int32) (v_text : Value) (i_textSize : Int32) (i_textSteps : Int32) (v_other : Value) (i_otherSize : Int32) (v_piece : Value) (i_pieceSize : Int32) (i_at : Int32) (i_end : Int32) (i_value : Int32) (a1 : Int32) (h1 : ¬ a1 < 0) : Met l y_O_cutAfter k_O_cutAfter ({ frames := 1, cells := 0, slots := 0, locals := 21 } : Room) (va_Pc [.ref h0, .int a1] (pc_E (dC, dI) [(h0, .inr (7, [.int i_thrown, .int 0, .int i_lasts, v_buffer, .int i_size, .int i_documents, v_gone, v_first, v_many, v_lengths, v_authors, v_sums, v_row, v_made, .int i_madeSize, v_base, .int i_baseSize, v_text, .int i_textSize, .int i_textSteps, v_other, .int i_otherSize, v_piece, .int i_pieceSize, .int i_at, .int i_end, .int i_value]))] [] sz)) (va_Qi (fun (r : Int32) (_ : Unit) => r = 1) (fun (_ : Unit) t => at_E (dC, dI) (va_A [(h0, .inr (7, [.int i_thrown, .int 0, .int i_lasts, v_buffer, .int i_size, .int i_documents, v_gone, v_first, v_many, v_lengths, v_authors, v_sums, v_row, v_made, .int i_madeSize, v_base, .int i_baseSize, v_text, .int i_textSize, .int i_textSteps, v_other, .int i_otherSize, v_piece, .int i_pieceSize, .int i_at, .int i_end, .int i_value]))] sz) [(h0, .inr (7, [.int 0, .int 0, .int a1, v_buffer, .int i_size, .int i_documents, v_gone, v_first, v_many, v_lengths, v_authors, v_sums, v_row, v_made, .int i_madeSize, v_base, .int i_baseSize, v_text, .int i_textSize, .int i_textSteps, v_other, .int i_otherSize, v_piece, .int i_pieceSize, .int i_at, .int i_end, .int i_value]))] [] t) (va_A [(h0, .inr (7, [.int i_thrown, .int 0, .int i_lasts, v_buffer, .int i_size, .int i_documents, v_gone, v_first, v_many, v_lengths, v_authors, v_sums, v_row, v_made, .int i_madeSize, v_base, .int i_baseSize, v_text, .int i_textSize, .int i_textSteps, v_other, .int i_otherSize, v_piece, .int i_pieceSize, .int i_at, .int i_end, .int i_value]))] sz)) 0 0 (va_A [(h0, .inr (7, [.int i_thrown, .int 0, .int i_lasts, v_buffer, .int i_size, .int i_documents, v_gone, v_first, v_many, v_lengths, v_authors, v_sums, v_row, v_made, .int i_madeSize, v_base, .int i_baseSize, v_text, .int i_textSize, .int i_textSteps, v_other, .int i_otherSize, v_piece, .int i_pieceSize, .int i_at, .int i_end, .int i_value]))] sz) := by
  refine Met.ofW (cc := prog_9_method_40_code) (maxL := 2) (ret := (some .boolean)) (by decide) rfl ?_
  intro p e s m args below meth c s₁ B hml hv
  obtain ⟨rfl, hsz, hP, hK, hD0, hN⟩ := hv
  have hx := B.exec
  have hb := B.bytes
  have hr := B.returns
  have hts := atoms_spec (ws := k_O_cutAfter) B.pre
  have hw0 : ∀ w ∈ w0, w.before _ s = true := fun w h => hts w (List.mem_cons_of_mem _ h)
  have hown : s.vm.findClass R_O = some m.cls := findClass_of_methodNamed B.named
  have hlocks := B.notSynchronized
  subst hsz
  have hD := hD0.self (sz := s.heap.size)
  generalize hAe : va_A [(h0, .inr (7, [.int i_thrown, .int 0, .int i_lasts, v_buffer, .int i_size, .int i_documents, v_gone, v_first, v_many, v_lengths, v_authors, v_sums, v_row, v_made, .int i_madeSize, v_base, .int i_baseSize, v_text, .int i_textSize, .int i_textSteps, v_other, .int i_otherSize, v_piece, .int i_pieceSize, .int i_at, .int i_end, .int i_value]))] s.heap.size = A at hD ⊢
  have hA : ∀ q : Nat, s.heap.size ≤ q → A q := fun q h => by rw [← hAe]; exact Or.inr h
  have hS : va_S A s.heap s.heap [] := va_S.rf
  have hP : va_P (dC, dI) vwCl [(h0, .inr (7, [.int i_thrown, .int 0, .int i_lasts, v_buffer, .int i_size, .int i_documents, v_gone, v_first, v_many, v_lengths, v_authors, v_sums, v_row, v_made, .int i_madeSize, v_base, .int i_baseSize, v_text, .int i_textSize, .int i_textSteps, v_other, .int i_otherSize, v_piece, .int i_pieceSize, .int i_at, .int i_end, .int i_value]))] s.heap := hP
  have hl := lv_entry ([.ref h0, .int a1]) (n := 2) (Nat.le_of_ble_eq_true rfl)
  rw [lg_entry_eq]
  generalize (lg_sl ([.ref h0, .int a1]) ++ List.replicate (2 - (lg_sl ([.ref h0, .int a1])).length) Slot.unset).toArray = ls at hl ⊢
  have hl : lv_has ls 2 [(0, .ref h0), (1, .int a1)] := hl
  refine lv_aload_n hx hb d_O_cutAfter_0 rfl (lv_at hl 0 rfl) ?_
  refine lv_iconst (v := 1) hx hb d_O_cutAfter_1 (by decide) ?_
  have hPc := hP.sub (ws' := [(h0, .inr (7, [.int i_thrown, .int 0, .int i_lasts, v_buffer, .int i_size, .int i_documents, v_gone, v_first, v_many, v_lengths, v_authors, v_sums, v_row, v_made, .int i_madeSize, v_base, .int i_baseSize, v_text, .int i_textSize, .int i_textSteps, v_other, .int i_otherSize, v_piece, .int i_pieceSize, .int i_at, .int i_end, .int i_value]))]) [0] rfl
  have hKc := hK.sub (tys' := []) [] rfl
  have hDc := hD.sub (ws' := [(h0, .inr (7, [.int i_thrown, .int 0, .int i_lasts, v_buffer, .int i_size, .int i_documents, v_gone, v_first, v_many, v_lengths, v_authors, v_sums, v_row, v_made, .int i_madeSize, v_base, .int i_baseSize, v_text, .int i_textSize, .int i_textSteps, v_other, .int i_otherSize, v_piece, .int i_pieceSize, .int i_at, .int i_end, .int i_value]))]) [0] (by decide) rfl
  have hFc := va_free (wc := [(h0, .inr (7, [.int i_thrown, .int 0, .int i_lasts, v_buffer, .int i_size, .int i_documents, v_gone, v_first, v_many, v_lengths, v_authors, v_sums, v_row, v_made, .int i_madeSize, v_base, .int i_baseSize, v_text, .int i_textSize, .int i_textSteps, v_other, .int i_otherSize, v_piece, .int i_pieceSize, .int i_at, .int i_end, .int i_value]))]) hD hS hA [0] rfl
  refine va_calli (va_runV (As := [.int 1]) (rest := []) ⟨hx, hb, hml, hown, hw0⟩ (m_runs l dC dI s.heap.size h0 i_thrown i_lasts v_buffer i_size i_documents v_gone v_first v_many v_lengths v_authors v_sums v_row v_made i_madeSize v_base i_baseSize v_text i_textSize i_textSteps v_other i_otherSize v_piece i_pieceSize i_at i_end i_value 1) (cwV 1 hw0 (gd_V 176 177 178 173 179 rfl rfl rfl rfl rfl) rfl rfl rfl (by decide +kernel) ⟨by decide +kernel, by decide +kernel⟩) (prV_E hPc hKc hDc hN (va_recv hKc hPc (ci := 7) (q0 := 0) rfl rfl)) rfl rfl hl.1 rfl (lv_room (Nat.le_of_ble_eq_true rfl)) d_O_cutAfter_2 ⟨by decide +kernel, by decide +kernel⟩) hS (fun q _ h => hFc q h) hFc (fun r_1 u t H1 locs ht hvm hw hB hz1 hk1 hS => ?_)
  obtain ⟨hP1, hK1, hD1⟩ := hB
  rw [ht] at hP1
  have hK1 := va_K.moved hvm.symm hK1
  try dsimp only at hw
  obtain ⟨hP, hD⟩ := va_join (wr := []) (w1 := [(h0, .inr (7, [.int 0, .int 0, .int i_lasts, v_buffer, .int i_size, .int i_documents, v_gone, v_first, v_many, v_lengths, v_authors, v_sums, v_row, v_made, .int i_madeSize, v_base, .int i_baseSize, v_text, .int i_textSize, .int i_textSteps, v_other, .int i_otherSize, v_piece, .int i_pieceSize, .int i_at, .int i_end, .int i_value]))]) hP hD [0] [] rfl rfl (by decide) (by decide) hk1 hFc hP1 hD1
  generalize H1 = H at hP hS ⊢
  replace hP : va_P (dC, dI) vwCl [(h0, .inr (7, [.int 0, .int 0, .int i_lasts, v_buffer, .int i_size, .int i_documents, v_gone, v_first, v_many, v_lengths, v_authors, v_sums, v_row, v_made, .int i_madeSize, v_base, .int i_baseSize, v_text, .int i_textSize, .int i_textSteps, v_other, .int i_otherSize, v_piece, .int i_pieceSize, .int i_at, .int i_end, .int i_value]))] H := hP
  replace hD : va_D A [(h0, .inr (7, [.int 0, .int 0, .int i_lasts, v_buffer, .int i_size, .int i_documents, v_gone, v_first, v_many, v_lengths, v_authors, v_sums, v_row, v_made, .int i_madeSize, v_base, .int i_baseSize, v_text, .int i_textSize, .int i_textSteps, v_other, .int i_otherSize, v_piece, .int i_pieceSize, .int i_at, .int i_end, .int i_value]))] := hD
  replace hK : va_K (dC, dI) vwCl [] s := hK
  obtain rfl : r_1 = 1 := hw
  refine lv_if_eq (tgt := 12) hx hb d_O_cutAfter_5 (by decide) (fun h9 => absurd h9 (by decide +kernel)) (fun _ => ?_)
  refine lv_iload_n hx hb d_O_cutAfter_8 rfl (lv_at hl 1 rfl) ?_
  refine lv_if_ge (tgt := 14) hx hb d_O_cutAfter_9 (by decide) (fun c_3 => ?_) (fun c_3 => absurd (Int32.not_lt.mp h1) c_3)
  refine lv_aload_n hx hb d_O_cutAfter_14 rfl (lv_at hl 0 rfl) ?_
  refine lv_iload_n hx hb d_O_cutAfter_15 rfl (lv_at hl 1 rfl) ?_
  refine va_put (D := (dC, dI)) (ci := 7) (v := .int a1) (ty := .int) (C := R_O) (T := F_O) (N := 27) hx hb hw0 in_O ft_O tk_O nk_O hown hK hP hD hS 0 rfl rfl 2 (by decide) (hw0 (.fieldLink R_O 9 "TextKeeperModel" "lasts" "I") (List.mem_of_getElem? (i := 175) rfl)) (fun _ h9 => h9) rfl (by decide +kernel) rfl rfl (Nat.le_of_ble_eq_true rfl) d_O_cutAfter_16 (fun H locs hP hD hS => ?_)
  replace hP : va_P (dC, dI) vwCl [(h0, .inr (7, [.int 0, .int 0, .int a1, v_buffer, .int i_size, .int i_documents, v_gone, v_first, v_many, v_lengths, v_authors, v_sums, v_row, v_made, .int i_madeSize, v_base, .int i_baseSize, v_text, .int i_textSize, .int i_textSteps, v_other, .int i_otherSize, v_piece, .int i_pieceSize, .int i_at, .int i_end, .int i_value]))] H := hP
  replace hD : va_D A [(h0, .inr (7, [.int 0, .int 0, .int a1, v_buffer, .int i_size, .int i_documents, v_gone, v_first, v_many, v_lengths, v_authors, v_sums, v_row, v_made, .int i_madeSize, v_base, .int i_baseSize, v_text, .int i_textSize, .int i_textSteps, v_other, .int i_otherSize, v_piece, .int i_pieceSize, .int i_at, .int i_end, .int i_value]))] := hD
  refine lv_iconst (v := 1) hx hb d_O_cutAfter_19 (by decide) ?_
  have hP9 := hP.sub (ws' := [(h0, .inr (7, [.int 0, .int 0, .int a1, v_buffer, .int i_size, .int i_documents, v_gone, v_first, v_many, v_lengths, v_authors, v_sums, v_row, v_made, .int i_madeSize, v_base, .int i_baseSize, v_text, .int i_textSize, .int i_textSteps, v_other, .int i_otherSize, v_piece, .int i_pieceSize, .int i_at, .int i_end, .int i_value]))]) [0] rfl
  have hD9 := hD.sub (ws' := [(h0, .inr (7, [.int 0, .int 0, .int a1, v_buffer, .int i_size, .int i_documents, v_gone, v_first, v_many, v_lengths, v_authors, v_sums, v_row, v_made, .int i_madeSize, v_base, .int i_baseSize, v_text, .int i_textSize, .int i_textSteps, v_other, .int i_otherSize, v_piece, .int i_pieceSize, .int i_at, .int i_end, .int i_value]))]) [0] (by decide) rfl
  have hK9 := hK.sub (tys' := []) [] rfl
  exact W.zret (v := 1) (ty := .boolean) hx hb hr rfl (fun t ht hW => ⟨⟨1, (), rfl, rfl, by rw [ht]; exact hP9, va_K.moved hW.alike hK9, hD9⟩, hS.F ht⟩) hS.2.2 d_O_cutAfter_20
set_option maxHeartbeats 4000000 in
set_option maxRecDepth 100000 in
theorem m_cutAfter_F (l : Launch) (dC : Nat → ClassId) (dI : Nat → Nat → Nat) (sz : Nat) (h0 : Nat) (i_thrown : Int32) (i_lasts : Int32) (v_buffer : Value) (i_size : Int32) (i_documents : Int32) (v_gone : Value) (v_first : Value) (v_many : Value) (v_lengths : Value) (v_authors : Value) (v_sums : Value) (v_row : Value) (v_made : Value) (i_madeSize : Int32) (v_base : Value) (i_baseSize : Int32) (v_text : Value) (i_textSize : Int32) (i_textSteps : Int32) (v_other : Value) (i_otherSize : Int32) (v_piece : Value) (i_pieceSize : Int32) (i_at : Int32) (i_end : Int32) (i_value : Int32) (a1 : Int32) (h1 : a1 < 0) : Met l y_O_cutAfter k_O_cutAfter ({ frames := 1, cells := 0, slots := 0, locals := 21 } : Room) (va_Pc [.ref h0, .int a1] (pc_E (dC, dI) [(h0, .inr (7, [.int i_thrown, .int 0, .int i_lasts, v_buffer, .int i_size, .int i_documents, v_gone, v_first, v_many, v_lengths, v_authors, v_sums, v_row, v_made, .int i_madeSize, v_base, .int i_baseSize, v_text, .int i_textSize, .int i_textSteps, v_other, .int i_otherSize, v_piece, .int i_pieceSize, .int i_at, .int i_end, .int i_value]))] [] sz)) (va_Qi (fun (r : Int32) (_ : Unit) => r = 0) (fun (_ : Unit) t => at_E (dC, dI) (va_A [(h0, .inr (7, [.int i_thrown, .int 0, .int i_lasts, v_buffer, .int i_size, .int i_documents, v_gone, v_first, v_many, v_lengths, v_authors, v_sums, v_row, v_made, .int i_madeSize, v_base, .int i_baseSize, v_text, .int i_textSize, .int i_textSteps, v_other, .int i_otherSize, v_piece, .int i_pieceSize, .int i_at, .int i_end, .int i_value]))] sz) [(h0, .inr (7, [.int 0, .int 0, .int i_lasts, v_buffer, .int i_size, .int i_documents, v_gone, v_first, v_many, v_lengths, v_authors, v_sums, v_row, v_made, .int i_madeSize, v_base, .int i_baseSize, v_text, .int i_textSize, .int i_textSteps, v_other, .int i_otherSize, v_piece, .int i_pieceSize, .int i_at, .int i_end, .int i_value]))] [] t) (va_A [(h0, .inr (7, [.int i_thrown, .int 0, .int i_lasts, v_buffer, .int i_size, .int i_documents, v_gone, v_first, v_many, v_lengths, v_authors, v_sums, v_row, v_made, .int i_madeSize, v_base, .int i_baseSize, v_text, .int i_textSize, .int i_textSteps, v_other, .int i_otherSize, v_piece, .int i_pieceSize, .int i_at, .int i_end, .int i_value]))] sz)) 0 0 (va_A [(h0, .inr (7, [.int i_thrown, .int 0, .int i_lasts, v_buffer, .int i_size, .int i_documents, v_gone, v_first, v_many, v_lengths, v_authors, v_sums, v_row, v_made, .int i_madeSize, v_base, .int i_baseSize, v_text, .int i_textSize, .int i_textSteps, v_other, .int i_otherSize, v_piece, .int i_pieceSize, .int i_at, .int i_end, .int i_value]))] sz) := by
  refine Met.ofW (cc := prog_9_method_40_code) (maxL := 2) (ret := (some .boolean)) (by decide) rfl ?_
  intro p e s m args below meth c s₁ B hml hv
  obtain ⟨rfl, hsz, hP, hK, hD0, hN⟩ := hv
  have hx := B.exec
  have hb := B.bytes
  have hr := B.returns
  have hts := atoms_spec (ws := k_O_cutAfter) B.pre
  have hw0 : ∀ w ∈ w0, w.before _ s = true := fun w h => hts w (List.mem_cons_of_mem _ h)
  have hown : s.vm.findClass R_O = some m.cls := findClass_of_methodNamed B.named
  have hlocks := B.notSynchronized
  subst hsz
  have hD := hD0.self (sz := s.heap.size)
  generalize hAe : va_A [(h0, .inr (7, [.int i_thrown, .int 0, .int i_lasts, v_buffer, .int i_size, .int i_documents, v_gone, v_first, v_many, v_lengths, v_authors, v_sums, v_row, v_made, .int i_madeSize, v_base, .int i_baseSize, v_text, .int i_textSize, .int i_textSteps, v_other, .int i_otherSize, v_piece, .int i_pieceSize, .int i_at, .int i_end, .int i_value]))] s.heap.size = A at hD ⊢
  have hA : ∀ q : Nat, s.heap.size ≤ q → A q := fun q h => by rw [← hAe]; exact Or.inr h
  have hS : va_S A s.heap s.heap [] := va_S.rf
  have hP : va_P (dC, dI) vwCl [(h0, .inr (7, [.int i_thrown, .int 0, .int i_lasts, v_buffer, .int i_size, .int i_documents, v_gone, v_first, v_many, v_lengths, v_authors, v_sums, v_row, v_made, .int i_madeSize, v_base, .int i_baseSize, v_text, .int i_textSize, .int i_textSteps, v_other, .int i_otherSize, v_piece, .int i_pieceSize, .int i_at, .int i_end, .int i_value]))] s.heap := hP
  have hl := lv_entry ([.ref h0, .int a1]) (n := 2) (Nat.le_of_ble_eq_true rfl)
  rw [lg_entry_eq]
  generalize (lg_sl ([.ref h0, .int a1]) ++ List.replicate (2 - (lg_sl ([.ref h0, .int a1])).length) Slot.unset).toArray = ls at hl ⊢
  have hl : lv_has ls 2 [(0, .ref h0), (1, .int a1)] := hl
  refine lv_aload_n hx hb d_O_cutAfter_0 rfl (lv_at hl 0 rfl) ?_
  refine lv_iconst (v := 1) hx hb d_O_cutAfter_1 (by decide) ?_
  have hPc := hP.sub (ws' := [(h0, .inr (7, [.int i_thrown, .int 0, .int i_lasts, v_buffer, .int i_size, .int i_documents, v_gone, v_first, v_many, v_lengths, v_authors, v_sums, v_row, v_made, .int i_madeSize, v_base, .int i_baseSize, v_text, .int i_textSize, .int i_textSteps, v_other, .int i_otherSize, v_piece, .int i_pieceSize, .int i_at, .int i_end, .int i_value]))]) [0] rfl
  have hKc := hK.sub (tys' := []) [] rfl
  have hDc := hD.sub (ws' := [(h0, .inr (7, [.int i_thrown, .int 0, .int i_lasts, v_buffer, .int i_size, .int i_documents, v_gone, v_first, v_many, v_lengths, v_authors, v_sums, v_row, v_made, .int i_madeSize, v_base, .int i_baseSize, v_text, .int i_textSize, .int i_textSteps, v_other, .int i_otherSize, v_piece, .int i_pieceSize, .int i_at, .int i_end, .int i_value]))]) [0] (by decide) rfl
  have hFc := va_free (wc := [(h0, .inr (7, [.int i_thrown, .int 0, .int i_lasts, v_buffer, .int i_size, .int i_documents, v_gone, v_first, v_many, v_lengths, v_authors, v_sums, v_row, v_made, .int i_madeSize, v_base, .int i_baseSize, v_text, .int i_textSize, .int i_textSteps, v_other, .int i_otherSize, v_piece, .int i_pieceSize, .int i_at, .int i_end, .int i_value]))]) hD hS hA [0] rfl
  refine va_calli (va_runV (As := [.int 1]) (rest := []) ⟨hx, hb, hml, hown, hw0⟩ (m_runs l dC dI s.heap.size h0 i_thrown i_lasts v_buffer i_size i_documents v_gone v_first v_many v_lengths v_authors v_sums v_row v_made i_madeSize v_base i_baseSize v_text i_textSize i_textSteps v_other i_otherSize v_piece i_pieceSize i_at i_end i_value 1) (cwV 1 hw0 (gd_V 176 177 178 173 179 rfl rfl rfl rfl rfl) rfl rfl rfl (by decide +kernel) ⟨by decide +kernel, by decide +kernel⟩) (prV_E hPc hKc hDc hN (va_recv hKc hPc (ci := 7) (q0 := 0) rfl rfl)) rfl rfl hl.1 rfl (lv_room (Nat.le_of_ble_eq_true rfl)) d_O_cutAfter_2 ⟨by decide +kernel, by decide +kernel⟩) hS (fun q _ h => hFc q h) hFc (fun r_1 u t H1 locs ht hvm hw hB hz1 hk1 hS => ?_)
  obtain ⟨hP1, hK1, hD1⟩ := hB
  rw [ht] at hP1
  have hK1 := va_K.moved hvm.symm hK1
  try dsimp only at hw
  obtain ⟨hP, hD⟩ := va_join (wr := []) (w1 := [(h0, .inr (7, [.int 0, .int 0, .int i_lasts, v_buffer, .int i_size, .int i_documents, v_gone, v_first, v_many, v_lengths, v_authors, v_sums, v_row, v_made, .int i_madeSize, v_base, .int i_baseSize, v_text, .int i_textSize, .int i_textSteps, v_other, .int i_otherSize, v_piece, .int i_pieceSize, .int i_at, .int i_end, .int i_value]))]) hP hD [0] [] rfl rfl (by decide) (by decide) hk1 hFc hP1 hD1
  generalize H1 = H at hP hS ⊢
  replace hP : va_P (dC, dI) vwCl [(h0, .inr (7, [.int 0, .int 0, .int i_lasts, v_buffer, .int i_size, .int i_documents, v_gone, v_first, v_many, v_lengths, v_authors, v_sums, v_row, v_made, .int i_madeSize, v_base, .int i_baseSize, v_text, .int i_textSize, .int i_textSteps, v_other, .int i_otherSize, v_piece, .int i_pieceSize, .int i_at, .int i_end, .int i_value]))] H := hP
  replace hD : va_D A [(h0, .inr (7, [.int 0, .int 0, .int i_lasts, v_buffer, .int i_size, .int i_documents, v_gone, v_first, v_many, v_lengths, v_authors, v_sums, v_row, v_made, .int i_madeSize, v_base, .int i_baseSize, v_text, .int i_textSize, .int i_textSteps, v_other, .int i_otherSize, v_piece, .int i_pieceSize, .int i_at, .int i_end, .int i_value]))] := hD
  replace hK : va_K (dC, dI) vwCl [] s := hK
  obtain rfl : r_1 = 1 := hw
  refine lv_if_eq (tgt := 12) hx hb d_O_cutAfter_5 (by decide) (fun h9 => absurd h9 (by decide +kernel)) (fun _ => ?_)
  refine lv_iload_n hx hb d_O_cutAfter_8 rfl (lv_at hl 1 rfl) ?_
  refine lv_if_ge (tgt := 14) hx hb d_O_cutAfter_9 (by decide) (fun c_3 => absurd h1 (Int32.not_lt.mpr c_3)) (fun c_3 => ?_)
  refine lv_iconst (v := 0) hx hb d_O_cutAfter_12 (by decide) ?_
  have hP9 := hP.sub (ws' := [(h0, .inr (7, [.int 0, .int 0, .int i_lasts, v_buffer, .int i_size, .int i_documents, v_gone, v_first, v_many, v_lengths, v_authors, v_sums, v_row, v_made, .int i_madeSize, v_base, .int i_baseSize, v_text, .int i_textSize, .int i_textSteps, v_other, .int i_otherSize, v_piece, .int i_pieceSize, .int i_at, .int i_end, .int i_value]))]) [0] rfl
  have hD9 := hD.sub (ws' := [(h0, .inr (7, [.int 0, .int 0, .int i_lasts, v_buffer, .int i_size, .int i_documents, v_gone, v_first, v_many, v_lengths, v_authors, v_sums, v_row, v_made, .int i_madeSize, v_base, .int i_baseSize, v_text, .int i_textSize, .int i_textSteps, v_other, .int i_otherSize, v_piece, .int i_pieceSize, .int i_at, .int i_end, .int i_value]))]) [0] (by decide) rfl
  have hK9 := hK.sub (tys' := []) [] rfl
  exact W.zret (v := 0) (ty := .boolean) hx hb hr rfl (fun t ht hW => ⟨⟨0, (), rfl, rfl, by rw [ht]; exact hP9, va_K.moved hW.alike hK9, hD9⟩, hS.F ht⟩) hS.2.2 d_O_cutAfter_13
end
section
set_option maxHeartbeats 4000000 in
set_option maxRecDepth 100000 in
theorem lp_init {p : Program} {l : Launch} {e : Env} {s : State} {m : MethodId} {args : Array Value} {below : List Frame} {meth : Method} {c : Code} {dC : Nat → ClassId} {dI : Nat → Nat → Nat} {A : Nat → Prop} {Q : State → Prop} (h0 : Nat) (i_thrown : Int32) (i_down : Int32) (i_lasts : Int32) (v_buffer : Value) (i_size : Int32) (i_documents : Int32) (v_gone : Value) (v_first : Value) (v_many : Value) (v_authors : Value) (v_sums : Value) (v_row : Value) (v_made : Value) (i_madeSize : Int32) (v_base : Value) (i_baseSize : Int32) (v_text : Value) (i_textSize : Int32) (i_textSteps : Int32) (v_other : Value) (i_otherSize : Int32) (v_piece : Value) (i_pieceSize : Int32) (i_at : Int32) (i_end : Int32) (i_value : Int32) (hlen : Nat) (hbuf : Nat) (cB : ClassId) (cS : ClassId) (fb : Nat → Int32) 
    (hx : p.tables.exec = Jvm.exec) (hb : c.code = prog_9_method_1_code) (hml : c.maxLocals = 2) (hown : s.vm.findClass R_O = some m.cls) (hw0 : ∀ w ∈ w0, w.before args s = true) (hN : nw_ok s) (hK : va_K (dC, dI) vwCl [(cB, .byte), (cS, .short)] s) (hA : ∀ q : Nat, s.heap.size ≤ q → A q)
    (kk : ∀ (g : Nat → Int32), (∀ i, i < 512 → g i = (-1)) → ∀ (H : Heap) (locs : List Loc), va_P (dC, dI) vwCl [(h0, .inr (7, [.int i_thrown, .int i_down, .int i_lasts, v_buffer, .int i_size, .int i_documents, v_gone, v_first, v_many, .ref hlen, v_authors, v_sums, v_row, v_made, .int i_madeSize, v_base, .int i_baseSize, v_text, .int i_textSize, .int i_textSteps, v_other, .int i_otherSize, v_piece, .int i_pieceSize, .int i_at, .int i_end, .int i_value])), (hbuf, .inl (cB, 256, .inl (fb))), (hlen, .inl (cS, 512, .inl (g)))] H → va_D A [(h0, .inr (7, [.int i_thrown, .int i_down, .int i_lasts, v_buffer, .int i_size, .int i_documents, v_gone, v_first, v_many, .ref hlen, v_authors, v_sums, v_row, v_made, .int i_madeSize, v_base, .int i_baseSize, v_text, .int i_textSize, .int i_textSteps, v_other, .int i_otherSize, v_piece, .int i_pieceSize, .int i_at, .int i_end, .int i_value])), (hbuf, .inl (cB, 256, .inl (fb))), (hlen, .inl (cS, 512, .inl (g)))] → va_S A s.heap H locs → ∀ ls : Array Slot, lv_has ls 2 [(1, .int (nI 512)), (0, .ref h0)] → W p l e ({ frames := 1, cells := 13, slots := 19824, locals := 16 } : Room) s m args below meth c H locs 13 19824 Q (F0 m 155 ls [])) :
    ∀ (n j : Nat), j ≤ 512 → 512 < j + n → ∀ (g : Nat → Int32), (∀ i, i < j → g i = (-1)) → ∀ (H : Heap) (locs : List Loc), va_P (dC, dI) vwCl [(h0, .inr (7, [.int i_thrown, .int i_down, .int i_lasts, v_buffer, .int i_size, .int i_documents, v_gone, v_first, v_many, .ref hlen, v_authors, v_sums, v_row, v_made, .int i_madeSize, v_base, .int i_baseSize, v_text, .int i_textSize, .int i_textSteps, v_other, .int i_otherSize, v_piece, .int i_pieceSize, .int i_at, .int i_end, .int i_value])), (hbuf, .inl (cB, 256, .inl (fb))), (hlen, .inl (cS, 512, .inl (g)))] H → va_D A [(h0, .inr (7, [.int i_thrown, .int i_down, .int i_lasts, v_buffer, .int i_size, .int i_documents, v_gone, v_first, v_many, .ref hlen, v_authors, v_sums, v_row, v_made, .int i_madeSize, v_base, .int i_baseSize, v_text, .int i_textSize, .int i_textSteps, v_other, .int i_otherSize, v_piece, .int i_pieceSize, .int i_at, .int i_end, .int i_value])), (hbuf, .inl (cB, 256, .inl (fb))), (hlen, .inl (cS, 512, .inl (g)))] → va_S A s.heap H locs → ∀ ls : Array Slot, lv_has ls 2 [(1, .int (nI j)), (0, .ref h0)] → W p l e ({ frames := 1, cells := 13, slots := 19824, locals := 16 } : Room) s m args below meth c H locs 13 19824 Q (F0 m 135 ls []) := by
  intro n
  induction n with
  | zero => intro j h1 h2; exact absurd h2 (by omega)
  | succ n ih =>
    intro j hj hn g hf0 H locs hP hD hS ls hl
    refine lv_iload_n hx hb d_O_init_135 rfl (lv_at hl 0 rfl) ?_
    refine lv_sipush (v := 512) hx hb d_O_init_136 (by decide +kernel) ?_
    refine lv_icmp_ge (tgt := 155) hx hb d_O_init_139 (by decide) (fun c_1 => ?_) (fun c_1 => ?_)
    · obtain rfl : j = 512 := x_geN (by decide) hj c_1
      exact kk g hf0 _ _ hP hD hS ls (lv_sub hl [0, 1] rfl)
    · have hlt : j < 512 := x_ltN (by decide) hj c_1
      refine lv_aload_n hx hb d_O_init_142 rfl (lv_at hl 1 rfl) ?_
      refine va_get (D := (dC, dI)) (ci := 7) (v := .ref hlen) (C := R_O) (T := F_O) (N := 27) hx hb hw0 in_O hown hK hP 0 rfl rfl 9 (by decide) (hw0 (.fieldLink R_O 28 "TextKeeperModel" "lengths" "[S") (List.mem_of_getElem? (i := 195) rfl)) (fun _ h9 => h9) rfl d_O_init_143 ?_
      refine lv_iload_n hx hb d_O_init_146 rfl (lv_at hl 0 rfl) ?_
      refine lv_iconst (v := (-1)) hx hb d_O_init_147 (by decide) ?_
      refine va_sast hx hb hK hP hD hS 2 1 rfl rfl (vp_in_nI hlt (by decide)) d_O_init_148 (fun H locs hP hD hS => ?_)
      replace hP : va_P (dC, dI) vwCl [(h0, .inr (7, [.int i_thrown, .int i_down, .int i_lasts, v_buffer, .int i_size, .int i_documents, v_gone, v_first, v_many, .ref hlen, v_authors, v_sums, v_row, v_made, .int i_madeSize, v_base, .int i_baseSize, v_text, .int i_textSize, .int i_textSteps, v_other, .int i_otherSize, v_piece, .int i_pieceSize, .int i_at, .int i_end, .int i_value])), (hbuf, .inl (cB, 256, .inl (fb))), (hlen, .inl (cS, 512, .inl (upd (g) (Int32.toNatClampNeg (nI j)) (vp_nar .short ((-1))))))] H := hP
      replace hD : va_D A [(h0, .inr (7, [.int i_thrown, .int i_down, .int i_lasts, v_buffer, .int i_size, .int i_documents, v_gone, v_first, v_many, .ref hlen, v_authors, v_sums, v_row, v_made, .int i_madeSize, v_base, .int i_baseSize, v_text, .int i_textSize, .int i_textSteps, v_other, .int i_otherSize, v_piece, .int i_pieceSize, .int i_at, .int i_end, .int i_value])), (hbuf, .inl (cB, 256, .inl (fb))), (hlen, .inl (cS, 512, .inl (upd (g) (Int32.toNatClampNeg (nI j)) (vp_nar .short ((-1))))))] := hD
      refine lv_iinc (v := nI (j + 1)) (lv' := [(1, .int (nI (j + 1))), (0, .ref h0)]) hx hb d_O_init_149 hl (k := 0) rfl (nI_1 j) (by decide) rfl (fun ls hl => ?_)
      refine lv_goto (tgt := 135) hx hb d_O_init_152 (by decide) ?_
      exact ih (j + 1) hlt (by omega) (upd (g) (Int32.toNatClampNeg (nI j)) (vp_nar .short ((-1)))) (x_fill hlt hf0) _ _ hP hD hS ls (lv_sub hl [0, 1] rfl)
set_option maxHeartbeats 4000000 in
set_option maxRecDepth 100000 in
theorem lp_feed {p : Program} {l : Launch} {e : Env} {s : State} {m : MethodId} {args : Array Value} {below : List Frame} {meth : Method} {c : Code} {dC : Nat → ClassId} {dI : Nat → Nat → Nat} {A : Nat → Prop} {Q : State → Prop} (h0 : Nat) (i_lasts : Int32) (i_documents : Int32) (v_gone : Value) (v_first : Value) (v_many : Value) (v_lengths : Value) (v_authors : Value) (v_sums : Value) (v_row : Value) (v_made : Value) (i_madeSize : Int32) (v_base : Value) (i_baseSize : Int32) (v_text : Value) (i_textSize : Int32) (i_textSteps : Int32) (v_other : Value) (i_otherSize : Int32) (v_piece : Value) (i_pieceSize : Int32) (i_at : Int32) (i_end : Int32) (i_value : Int32) (hbuf : Nat) (cB : ClassId) (a1 : Int32) (a2 : Int32) (a3 : Int32) (a4 : Int32) (a5 : Int32) 
    (hx : p.tables.exec = Jvm.exec) (hb : c.code = prog_9_method_5_code) (hml : c.maxLocals = 8) (hown : s.vm.findClass R_O = some m.cls) (hw0 : ∀ w ∈ w0, w.before args s = true) (hN : nw_ok s) (hK : va_K (dC, dI) vwCl [(cB, .byte)] s) (hA : ∀ q : Nat, s.heap.size ≤ q → A q)
    (kk : ∀ (f : Nat → Int32), ∀ (H : Heap) (locs : List Loc), va_P (dC, dI) vwCl [(h0, .inr (7, [.int 0, .int 0, .int i_lasts, .ref hbuf, .int (nI 20), .int i_documents, v_gone, v_first, v_many, v_lengths, v_authors, v_sums, v_row, v_made, .int i_madeSize, v_base, .int i_baseSize, v_text, .int i_textSize, .int i_textSteps, v_other, .int i_otherSize, v_piece, .int i_pieceSize, .int i_at, .int i_end, .int i_value])), (hbuf, .inl (cB, 256, .inl (f)))] H → va_D A [(h0, .inr (7, [.int 0, .int 0, .int i_lasts, .ref hbuf, .int (nI 20), .int i_documents, v_gone, v_first, v_many, v_lengths, v_authors, v_sums, v_row, v_made, .int i_madeSize, v_base, .int i_baseSize, v_text, .int i_textSize, .int i_textSteps, v_other, .int i_otherSize, v_piece, .int i_pieceSize, .int i_at, .int i_end, .int i_value])), (hbuf, .inl (cB, 256, .inl (f)))] → va_S A s.heap H locs → ∀ ls : Array Slot, lv_has ls 8 [(6, .int (nI 20)), (0, .ref h0), (1, .int a1), (2, .int a2), (3, .int a3), (4, .int a4), (5, .int a5)] → W p l e ({ frames := 1, cells := 0, slots := 0, locals := 21 } : Room) s m args below meth c H locs 0 0 Q (F0 m 120 ls [])) :
    ∀ (n j : Nat), j ≤ 20 → 20 < j + n → ∀ (f : Nat → Int32), ∀ (H : Heap) (locs : List Loc), va_P (dC, dI) vwCl [(h0, .inr (7, [.int 0, .int 0, .int i_lasts, .ref hbuf, .int (nI j), .int i_documents, v_gone, v_first, v_many, v_lengths, v_authors, v_sums, v_row, v_made, .int i_madeSize, v_base, .int i_baseSize, v_text, .int i_textSize, .int i_textSteps, v_other, .int i_otherSize, v_piece, .int i_pieceSize, .int i_at, .int i_end, .int i_value])), (hbuf, .inl (cB, 256, .inl (f)))] H → va_D A [(h0, .inr (7, [.int 0, .int 0, .int i_lasts, .ref hbuf, .int (nI j), .int i_documents, v_gone, v_first, v_many, v_lengths, v_authors, v_sums, v_row, v_made, .int i_madeSize, v_base, .int i_baseSize, v_text, .int i_textSize, .int i_textSteps, v_other, .int i_otherSize, v_piece, .int i_pieceSize, .int i_at, .int i_end, .int i_value])), (hbuf, .inl (cB, 256, .inl (f)))] → va_S A s.heap H locs → ∀ ls : Array Slot, lv_has ls 8 [(6, .int (nI j)), (0, .ref h0), (1, .int a1), (2, .int a2), (3, .int a3), (4, .int a4), (5, .int a5)] → W p l e ({ frames := 1, cells := 0, slots := 0, locals := 21 } : Room) s m args below meth c H locs 0 0 Q (F0 m 26 ls []) := by
  intro n
  induction n with
  | zero => intro j h1 h2; exact absurd h2 (by omega)
  | succ n ih =>
    intro j hj hn f  H locs hP hD hS ls hl
    refine lv_iload hx hb d_O_feed_26 (lv_at hl 0 rfl) ?_
    refine lv_bipush (v := 20) hx hb d_O_feed_28 (by decide +kernel) ?_
    refine lv_icmp_ge (tgt := 120) hx hb d_O_feed_30 (by decide) (fun c_1 => ?_) (fun c_1 => ?_)
    · obtain rfl : j = 20 := x_geN (by decide) hj c_1
      exact kk f _ _ hP hD hS ls (lv_sub hl [0, 1, 2, 3, 4, 5, 6] rfl)
    · have hlt : j < 20 := x_ltN (by decide) hj c_1
      refine lv_iload hx hb d_O_feed_33 (lv_at hl 0 rfl) ?_
      refine lv_iconst (v := 4) hx hb d_O_feed_35 (by decide) ?_
      refine lv_icmp_ge (tgt := 43) hx hb d_O_feed_36 (by decide) (fun c_2 => ?_) (fun c_2 => ?_)
      · refine lv_iload hx hb d_O_feed_43 (lv_at hl 0 rfl) ?_
        refine lv_bipush (v := 8) hx hb d_O_feed_45 (by decide +kernel) ?_
        refine lv_icmp_ge (tgt := 54) hx hb d_O_feed_47 (by decide) (fun c_3 => ?_) (fun c_3 => ?_)
        · refine lv_iload hx hb d_O_feed_54 (lv_at hl 0 rfl) ?_
          refine lv_bipush (v := 12) hx hb d_O_feed_56 (by decide +kernel) ?_
          refine lv_icmp_ge (tgt := 65) hx hb d_O_feed_58 (by decide) (fun c_4 => ?_) (fun c_4 => ?_)
          · refine lv_iload hx hb d_O_feed_65 (lv_at hl 0 rfl) ?_
            refine lv_bipush (v := 16) hx hb d_O_feed_67 (by decide +kernel) ?_
            refine lv_icmp_ge (tgt := 77) hx hb d_O_feed_69 (by decide) (fun c_5 => ?_) (fun c_5 => ?_)
            · refine lv_iload hx hb d_O_feed_77 (lv_at hl 6 rfl) ?_
              refine lv_istore (lv' := [(7, .int a5), (6, .int (nI j)), (0, .ref h0), (1, .int a1), (2, .int a2), (3, .int a3), (4, .int a4), (5, .int a5)]) hx hb d_O_feed_79 hl (by decide) rfl (fun ls hl => ?_)
              refine lv_aload_n hx hb d_O_feed_81 rfl (lv_at hl 2 rfl) ?_
              refine va_get (D := (dC, dI)) (ci := 7) (v := .ref hbuf) (C := R_O) (T := F_O) (N := 27) hx hb hw0 in_O hown hK hP 0 rfl rfl 3 (by decide) (hw0 (.fieldLink R_O 13 "TextKeeperModel" "buffer" "[B") (List.mem_of_getElem? (i := 196) rfl)) (fun _ h9 => h9) rfl d_O_feed_82 ?_
              refine lv_aload_n hx hb d_O_feed_85 rfl (lv_at hl 2 rfl) ?_
              refine va_get (D := (dC, dI)) (ci := 7) (v := .int (nI j)) (C := R_O) (T := F_O) (N := 27) hx hb hw0 in_O hown hK hP 0 rfl rfl 4 (by decide) (hw0 (.fieldLink R_O 69 "TextKeeperModel" "size" "I") (List.mem_of_getElem? (i := 194) rfl)) (fun _ h9 => h9) rfl d_O_feed_86 ?_
              refine lv_iload hx hb d_O_feed_89 (lv_at hl 0 rfl) ?_
              refine lv_bipush (v := 24) hx hb d_O_feed_91 (by decide +kernel) ?_
              refine lv_bipush (v := 8) hx hb d_O_feed_93 (by decide +kernel) ?_
              refine lv_iload hx hb d_O_feed_95 (lv_at hl 1 rfl) ?_
              refine lv_iconst (v := 4) hx hb d_O_feed_97 (by decide) ?_
              refine lv_irem hx hb d_O_feed_98 (by decide +kernel) ?_
              refine lv_topi (fun x_6 ex_6 => ?_)
              refine lv_imul hx hb d_O_feed_99 ?_
              refine lv_topi (fun x_7 ex_7 => ?_)
              refine lv_isub hx hb d_O_feed_100 ?_
              refine lv_topi (fun x_8 ex_8 => ?_)
              refine lv_ishr hx hb d_O_feed_101 ?_
              refine lv_topi (fun x_9 ex_9 => ?_)
              obtain ⟨x_10, ex_10⟩ : ∃ y : Int32, x_9.toInt8.toInt32 = y := ⟨_, rfl⟩
              refine lv_i2b (v := x_10) hx hb d_O_feed_102 ex_10 ?_
              refine va_bast hx hb hK hP hD hS 1 0 rfl rfl (vp_in_nI (by omega) (by decide)) d_O_feed_103 (fun H locs hP hD hS => ?_)
              replace hP : va_P (dC, dI) vwCl [(h0, .inr (7, [.int 0, .int 0, .int i_lasts, .ref hbuf, .int (nI j), .int i_documents, v_gone, v_first, v_many, v_lengths, v_authors, v_sums, v_row, v_made, .int i_madeSize, v_base, .int i_baseSize, v_text, .int i_textSize, .int i_textSteps, v_other, .int i_otherSize, v_piece, .int i_pieceSize, .int i_at, .int i_end, .int i_value])), (hbuf, .inl (cB, 256, .inl (upd (f) (Int32.toNatClampNeg (nI j)) (vp_nar .byte (x_10)))))] H := hP
              replace hD : va_D A [(h0, .inr (7, [.int 0, .int 0, .int i_lasts, .ref hbuf, .int (nI j), .int i_documents, v_gone, v_first, v_many, v_lengths, v_authors, v_sums, v_row, v_made, .int i_madeSize, v_base, .int i_baseSize, v_text, .int i_textSize, .int i_textSteps, v_other, .int i_otherSize, v_piece, .int i_pieceSize, .int i_at, .int i_end, .int i_value])), (hbuf, .inl (cB, 256, .inl (upd (f) (Int32.toNatClampNeg (nI j)) (vp_nar .byte (x_10)))))] := hD
              generalize upd (f) (Int32.toNatClampNeg (nI j)) (vp_nar .byte (x_10)) = f_11 at hP hD
              refine lv_aload_n hx hb d_O_feed_104 rfl (lv_at hl 2 rfl) ?_
              refine lv_dup hx hb d_O_feed_105 rfl ?_
              refine va_get (D := (dC, dI)) (ci := 7) (v := .int (nI j)) (C := R_O) (T := F_O) (N := 27) hx hb hw0 in_O hown hK hP 0 rfl rfl 4 (by decide) (hw0 (.fieldLink R_O 69 "TextKeeperModel" "size" "I") (List.mem_of_getElem? (i := 194) rfl)) (fun _ h9 => h9) rfl d_O_feed_106 ?_
              refine lv_iconst (v := 1) hx hb d_O_feed_109 (by decide) ?_
              refine lv_iadd hx hb d_O_feed_110 ?_
              refine lv_topi (fun x_12 ex_12 => ?_)
              obtain rfl : x_12 = nI (j + 1) := ex_12.trans (nI_1 j)
              clear ex_12
              refine va_put (D := (dC, dI)) (ci := 7) (v := .int (nI (j + 1))) (ty := .int) (C := R_O) (T := F_O) (N := 27) hx hb hw0 in_O ft_O tk_O nk_O hown hK hP hD hS 0 rfl rfl 4 (by decide) (hw0 (.fieldLink R_O 69 "TextKeeperModel" "size" "I") (List.mem_of_getElem? (i := 194) rfl)) (fun _ h9 => h9) rfl (by decide +kernel) rfl rfl (Nat.le_of_ble_eq_true rfl) d_O_feed_111 (fun H locs hP hD hS => ?_)
              replace hP : va_P (dC, dI) vwCl [(h0, .inr (7, [.int 0, .int 0, .int i_lasts, .ref hbuf, .int (nI (j + 1)), .int i_documents, v_gone, v_first, v_many, v_lengths, v_authors, v_sums, v_row, v_made, .int i_madeSize, v_base, .int i_baseSize, v_text, .int i_textSize, .int i_textSteps, v_other, .int i_otherSize, v_piece, .int i_pieceSize, .int i_at, .int i_end, .int i_value])), (hbuf, .inl (cB, 256, .inl (f_11)))] H := hP
              replace hD : va_D A [(h0, .inr (7, [.int 0, .int 0, .int i_lasts, .ref hbuf, .int (nI (j + 1)), .int i_documents, v_gone, v_first, v_many, v_lengths, v_authors, v_sums, v_row, v_made, .int i_madeSize, v_base, .int i_baseSize, v_text, .int i_textSize, .int i_textSteps, v_other, .int i_otherSize, v_piece, .int i_pieceSize, .int i_at, .int i_end, .int i_value])), (hbuf, .inl (cB, 256, .inl (f_11)))] := hD
              refine lv_iinc (v := nI (j + 1)) (lv' := [(6, .int (nI (j + 1))), (7, .int a5), (0, .ref h0), (1, .int a1), (2, .int a2), (3, .int a3), (4, .int a4), (5, .int a5)]) hx hb d_O_feed_114 hl (k := 1) rfl (nI_1 j) (by decide) rfl (fun ls hl => ?_)
              refine lv_goto (tgt := 26) hx hb d_O_feed_117 (by decide) ?_
              exact ih (j + 1) hlt (by omega) (f_11) _ _ hP hD hS ls (lv_sub hl [0, 2, 3, 4, 5, 6, 7] rfl)
            · refine lv_iload hx hb d_O_feed_72 (lv_at hl 5 rfl) ?_
              refine lv_goto (tgt := 79) hx hb d_O_feed_74 (by decide) ?_
              refine lv_istore (lv' := [(7, .int a4), (6, .int (nI j)), (0, .ref h0), (1, .int a1), (2, .int a2), (3, .int a3), (4, .int a4), (5, .int a5)]) hx hb d_O_feed_79 hl (by decide) rfl (fun ls hl => ?_)
              refine lv_aload_n hx hb d_O_feed_81 rfl (lv_at hl 2 rfl) ?_
              refine va_get (D := (dC, dI)) (ci := 7) (v := .ref hbuf) (C := R_O) (T := F_O) (N := 27) hx hb hw0 in_O hown hK hP 0 rfl rfl 3 (by decide) (hw0 (.fieldLink R_O 13 "TextKeeperModel" "buffer" "[B") (List.mem_of_getElem? (i := 196) rfl)) (fun _ h9 => h9) rfl d_O_feed_82 ?_
              refine lv_aload_n hx hb d_O_feed_85 rfl (lv_at hl 2 rfl) ?_
              refine va_get (D := (dC, dI)) (ci := 7) (v := .int (nI j)) (C := R_O) (T := F_O) (N := 27) hx hb hw0 in_O hown hK hP 0 rfl rfl 4 (by decide) (hw0 (.fieldLink R_O 69 "TextKeeperModel" "size" "I") (List.mem_of_getElem? (i := 194) rfl)) (fun _ h9 => h9) rfl d_O_feed_86 ?_
              refine lv_iload hx hb d_O_feed_89 (lv_at hl 0 rfl) ?_
              refine lv_bipush (v := 24) hx hb d_O_feed_91 (by decide +kernel) ?_
              refine lv_bipush (v := 8) hx hb d_O_feed_93 (by decide +kernel) ?_
              refine lv_iload hx hb d_O_feed_95 (lv_at hl 1 rfl) ?_
              refine lv_iconst (v := 4) hx hb d_O_feed_97 (by decide) ?_
              refine lv_irem hx hb d_O_feed_98 (by decide +kernel) ?_
              refine lv_topi (fun x_13 ex_13 => ?_)
              refine lv_imul hx hb d_O_feed_99 ?_
              refine lv_topi (fun x_14 ex_14 => ?_)
              refine lv_isub hx hb d_O_feed_100 ?_
              refine lv_topi (fun x_15 ex_15 => ?_)
              refine lv_ishr hx hb d_O_feed_101 ?_
              refine lv_topi (fun x_16 ex_16 => ?_)
              obtain ⟨x_17, ex_17⟩ : ∃ y : Int32, x_16.toInt8.toInt32 = y := ⟨_, rfl⟩
              refine lv_i2b (v := x_17) hx hb d_O_feed_102 ex_17 ?_
              refine va_bast hx hb hK hP hD hS 1 0 rfl rfl (vp_in_nI (by omega) (by decide)) d_O_feed_103 (fun H locs hP hD hS => ?_)
              replace hP : va_P (dC, dI) vwCl [(h0, .inr (7, [.int 0, .int 0, .int i_lasts, .ref hbuf, .int (nI j), .int i_documents, v_gone, v_first, v_many, v_lengths, v_authors, v_sums, v_row, v_made, .int i_madeSize, v_base, .int i_baseSize, v_text, .int i_textSize, .int i_textSteps, v_other, .int i_otherSize, v_piece, .int i_pieceSize, .int i_at, .int i_end, .int i_value])), (hbuf, .inl (cB, 256, .inl (upd (f) (Int32.toNatClampNeg (nI j)) (vp_nar .byte (x_17)))))] H := hP
              replace hD : va_D A [(h0, .inr (7, [.int 0, .int 0, .int i_lasts, .ref hbuf, .int (nI j), .int i_documents, v_gone, v_first, v_many, v_lengths, v_authors, v_sums, v_row, v_made, .int i_madeSize, v_base, .int i_baseSize, v_text, .int i_textSize, .int i_textSteps, v_other, .int i_otherSize, v_piece, .int i_pieceSize, .int i_at, .int i_end, .int i_value])), (hbuf, .inl (cB, 256, .inl (upd (f) (Int32.toNatClampNeg (nI j)) (vp_nar .byte (x_17)))))] := hD
              generalize upd (f) (Int32.toNatClampNeg (nI j)) (vp_nar .byte (x_17)) = f_18 at hP hD
              refine lv_aload_n hx hb d_O_feed_104 rfl (lv_at hl 2 rfl) ?_
              refine lv_dup hx hb d_O_feed_105 rfl ?_
              refine va_get (D := (dC, dI)) (ci := 7) (v := .int (nI j)) (C := R_O) (T := F_O) (N := 27) hx hb hw0 in_O hown hK hP 0 rfl rfl 4 (by decide) (hw0 (.fieldLink R_O 69 "TextKeeperModel" "size" "I") (List.mem_of_getElem? (i := 194) rfl)) (fun _ h9 => h9) rfl d_O_feed_106 ?_
              refine lv_iconst (v := 1) hx hb d_O_feed_109 (by decide) ?_
              refine lv_iadd hx hb d_O_feed_110 ?_
              refine lv_topi (fun x_19 ex_19 => ?_)
              obtain rfl : x_19 = nI (j + 1) := ex_19.trans (nI_1 j)
              clear ex_19
              refine va_put (D := (dC, dI)) (ci := 7) (v := .int (nI (j + 1))) (ty := .int) (C := R_O) (T := F_O) (N := 27) hx hb hw0 in_O ft_O tk_O nk_O hown hK hP hD hS 0 rfl rfl 4 (by decide) (hw0 (.fieldLink R_O 69 "TextKeeperModel" "size" "I") (List.mem_of_getElem? (i := 194) rfl)) (fun _ h9 => h9) rfl (by decide +kernel) rfl rfl (Nat.le_of_ble_eq_true rfl) d_O_feed_111 (fun H locs hP hD hS => ?_)
              replace hP : va_P (dC, dI) vwCl [(h0, .inr (7, [.int 0, .int 0, .int i_lasts, .ref hbuf, .int (nI (j + 1)), .int i_documents, v_gone, v_first, v_many, v_lengths, v_authors, v_sums, v_row, v_made, .int i_madeSize, v_base, .int i_baseSize, v_text, .int i_textSize, .int i_textSteps, v_other, .int i_otherSize, v_piece, .int i_pieceSize, .int i_at, .int i_end, .int i_value])), (hbuf, .inl (cB, 256, .inl (f_18)))] H := hP
              replace hD : va_D A [(h0, .inr (7, [.int 0, .int 0, .int i_lasts, .ref hbuf, .int (nI (j + 1)), .int i_documents, v_gone, v_first, v_many, v_lengths, v_authors, v_sums, v_row, v_made, .int i_madeSize, v_base, .int i_baseSize, v_text, .int i_textSize, .int i_textSteps, v_other, .int i_otherSize, v_piece, .int i_pieceSize, .int i_at, .int i_end, .int i_value])), (hbuf, .inl (cB, 256, .inl (f_18)))] := hD
              refine lv_iinc (v := nI (j + 1)) (lv' := [(6, .int (nI (j + 1))), (7, .int a4), (0, .ref h0), (1, .int a1), (2, .int a2), (3, .int a3), (4, .int a4), (5, .int a5)]) hx hb d_O_feed_114 hl (k := 1) rfl (nI_1 j) (by decide) rfl (fun ls hl => ?_)
              refine lv_goto (tgt := 26) hx hb d_O_feed_117 (by decide) ?_
              exact ih (j + 1) hlt (by omega) (f_18) _ _ hP hD hS ls (lv_sub hl [0, 2, 3, 4, 5, 6, 7] rfl)
          · refine lv_iload_n hx hb d_O_feed_61 rfl (lv_at hl 4 rfl) ?_
            refine lv_goto (tgt := 79) hx hb d_O_feed_62 (by decide) ?_
            refine lv_istore (lv' := [(7, .int a3), (6, .int (nI j)), (0, .ref h0), (1, .int a1), (2, .int a2), (3, .int a3), (4, .int a4), (5, .int a5)]) hx hb d_O_feed_79 hl (by decide) rfl (fun ls hl => ?_)
            refine lv_aload_n hx hb d_O_feed_81 rfl (lv_at hl 2 rfl) ?_
            refine va_get (D := (dC, dI)) (ci := 7) (v := .ref hbuf) (C := R_O) (T := F_O) (N := 27) hx hb hw0 in_O hown hK hP 0 rfl rfl 3 (by decide) (hw0 (.fieldLink R_O 13 "TextKeeperModel" "buffer" "[B") (List.mem_of_getElem? (i := 196) rfl)) (fun _ h9 => h9) rfl d_O_feed_82 ?_
            refine lv_aload_n hx hb d_O_feed_85 rfl (lv_at hl 2 rfl) ?_
            refine va_get (D := (dC, dI)) (ci := 7) (v := .int (nI j)) (C := R_O) (T := F_O) (N := 27) hx hb hw0 in_O hown hK hP 0 rfl rfl 4 (by decide) (hw0 (.fieldLink R_O 69 "TextKeeperModel" "size" "I") (List.mem_of_getElem? (i := 194) rfl)) (fun _ h9 => h9) rfl d_O_feed_86 ?_
            refine lv_iload hx hb d_O_feed_89 (lv_at hl 0 rfl) ?_
            refine lv_bipush (v := 24) hx hb d_O_feed_91 (by decide +kernel) ?_
            refine lv_bipush (v := 8) hx hb d_O_feed_93 (by decide +kernel) ?_
            refine lv_iload hx hb d_O_feed_95 (lv_at hl 1 rfl) ?_
            refine lv_iconst (v := 4) hx hb d_O_feed_97 (by decide) ?_
            refine lv_irem hx hb d_O_feed_98 (by decide +kernel) ?_
            refine lv_topi (fun x_20 ex_20 => ?_)
            refine lv_imul hx hb d_O_feed_99 ?_
            refine lv_topi (fun x_21 ex_21 => ?_)
            refine lv_isub hx hb d_O_feed_100 ?_
            refine lv_topi (fun x_22 ex_22 => ?_)
            refine lv_ishr hx hb d_O_feed_101 ?_
            refine lv_topi (fun x_23 ex_23 => ?_)
            obtain ⟨x_24, ex_24⟩ : ∃ y : Int32, x_23.toInt8.toInt32 = y := ⟨_, rfl⟩
            refine lv_i2b (v := x_24) hx hb d_O_feed_102 ex_24 ?_
            refine va_bast hx hb hK hP hD hS 1 0 rfl rfl (vp_in_nI (by omega) (by decide)) d_O_feed_103 (fun H locs hP hD hS => ?_)
            replace hP : va_P (dC, dI) vwCl [(h0, .inr (7, [.int 0, .int 0, .int i_lasts, .ref hbuf, .int (nI j), .int i_documents, v_gone, v_first, v_many, v_lengths, v_authors, v_sums, v_row, v_made, .int i_madeSize, v_base, .int i_baseSize, v_text, .int i_textSize, .int i_textSteps, v_other, .int i_otherSize, v_piece, .int i_pieceSize, .int i_at, .int i_end, .int i_value])), (hbuf, .inl (cB, 256, .inl (upd (f) (Int32.toNatClampNeg (nI j)) (vp_nar .byte (x_24)))))] H := hP
            replace hD : va_D A [(h0, .inr (7, [.int 0, .int 0, .int i_lasts, .ref hbuf, .int (nI j), .int i_documents, v_gone, v_first, v_many, v_lengths, v_authors, v_sums, v_row, v_made, .int i_madeSize, v_base, .int i_baseSize, v_text, .int i_textSize, .int i_textSteps, v_other, .int i_otherSize, v_piece, .int i_pieceSize, .int i_at, .int i_end, .int i_value])), (hbuf, .inl (cB, 256, .inl (upd (f) (Int32.toNatClampNeg (nI j)) (vp_nar .byte (x_24)))))] := hD
            generalize upd (f) (Int32.toNatClampNeg (nI j)) (vp_nar .byte (x_24)) = f_25 at hP hD
            refine lv_aload_n hx hb d_O_feed_104 rfl (lv_at hl 2 rfl) ?_
            refine lv_dup hx hb d_O_feed_105 rfl ?_
            refine va_get (D := (dC, dI)) (ci := 7) (v := .int (nI j)) (C := R_O) (T := F_O) (N := 27) hx hb hw0 in_O hown hK hP 0 rfl rfl 4 (by decide) (hw0 (.fieldLink R_O 69 "TextKeeperModel" "size" "I") (List.mem_of_getElem? (i := 194) rfl)) (fun _ h9 => h9) rfl d_O_feed_106 ?_
            refine lv_iconst (v := 1) hx hb d_O_feed_109 (by decide) ?_
            refine lv_iadd hx hb d_O_feed_110 ?_
            refine lv_topi (fun x_26 ex_26 => ?_)
            obtain rfl : x_26 = nI (j + 1) := ex_26.trans (nI_1 j)
            clear ex_26
            refine va_put (D := (dC, dI)) (ci := 7) (v := .int (nI (j + 1))) (ty := .int) (C := R_O) (T := F_O) (N := 27) hx hb hw0 in_O ft_O tk_O nk_O hown hK hP hD hS 0 rfl rfl 4 (by decide) (hw0 (.fieldLink R_O 69 "TextKeeperModel" "size" "I") (List.mem_of_getElem? (i := 194) rfl)) (fun _ h9 => h9) rfl (by decide +kernel) rfl rfl (Nat.le_of_ble_eq_true rfl) d_O_feed_111 (fun H locs hP hD hS => ?_)
            replace hP : va_P (dC, dI) vwCl [(h0, .inr (7, [.int 0, .int 0, .int i_lasts, .ref hbuf, .int (nI (j + 1)), .int i_documents, v_gone, v_first, v_many, v_lengths, v_authors, v_sums, v_row, v_made, .int i_madeSize, v_base, .int i_baseSize, v_text, .int i_textSize, .int i_textSteps, v_other, .int i_otherSize, v_piece, .int i_pieceSize, .int i_at, .int i_end, .int i_value])), (hbuf, .inl (cB, 256, .inl (f_25)))] H := hP
            replace hD : va_D A [(h0, .inr (7, [.int 0, .int 0, .int i_lasts, .ref hbuf, .int (nI (j + 1)), .int i_documents, v_gone, v_first, v_many, v_lengths, v_authors, v_sums, v_row, v_made, .int i_madeSize, v_base, .int i_baseSize, v_text, .int i_textSize, .int i_textSteps, v_other, .int i_otherSize, v_piece, .int i_pieceSize, .int i_at, .int i_end, .int i_value])), (hbuf, .inl (cB, 256, .inl (f_25)))] := hD
            refine lv_iinc (v := nI (j + 1)) (lv' := [(6, .int (nI (j + 1))), (7, .int a3), (0, .ref h0), (1, .int a1), (2, .int a2), (3, .int a3), (4, .int a4), (5, .int a5)]) hx hb d_O_feed_114 hl (k := 1) rfl (nI_1 j) (by decide) rfl (fun ls hl => ?_)
            refine lv_goto (tgt := 26) hx hb d_O_feed_117 (by decide) ?_
            exact ih (j + 1) hlt (by omega) (f_25) _ _ hP hD hS ls (lv_sub hl [0, 2, 3, 4, 5, 6, 7] rfl)
        · refine lv_iload_n hx hb d_O_feed_50 rfl (lv_at hl 3 rfl) ?_
          refine lv_goto (tgt := 79) hx hb d_O_feed_51 (by decide) ?_
          refine lv_istore (lv' := [(7, .int a2), (6, .int (nI j)), (0, .ref h0), (1, .int a1), (2, .int a2), (3, .int a3), (4, .int a4), (5, .int a5)]) hx hb d_O_feed_79 hl (by decide) rfl (fun ls hl => ?_)
          refine lv_aload_n hx hb d_O_feed_81 rfl (lv_at hl 2 rfl) ?_
          refine va_get (D := (dC, dI)) (ci := 7) (v := .ref hbuf) (C := R_O) (T := F_O) (N := 27) hx hb hw0 in_O hown hK hP 0 rfl rfl 3 (by decide) (hw0 (.fieldLink R_O 13 "TextKeeperModel" "buffer" "[B") (List.mem_of_getElem? (i := 196) rfl)) (fun _ h9 => h9) rfl d_O_feed_82 ?_
          refine lv_aload_n hx hb d_O_feed_85 rfl (lv_at hl 2 rfl) ?_
          refine va_get (D := (dC, dI)) (ci := 7) (v := .int (nI j)) (C := R_O) (T := F_O) (N := 27) hx hb hw0 in_O hown hK hP 0 rfl rfl 4 (by decide) (hw0 (.fieldLink R_O 69 "TextKeeperModel" "size" "I") (List.mem_of_getElem? (i := 194) rfl)) (fun _ h9 => h9) rfl d_O_feed_86 ?_
          refine lv_iload hx hb d_O_feed_89 (lv_at hl 0 rfl) ?_
          refine lv_bipush (v := 24) hx hb d_O_feed_91 (by decide +kernel) ?_
          refine lv_bipush (v := 8) hx hb d_O_feed_93 (by decide +kernel) ?_
          refine lv_iload hx hb d_O_feed_95 (lv_at hl 1 rfl) ?_
          refine lv_iconst (v := 4) hx hb d_O_feed_97 (by decide) ?_
          refine lv_irem hx hb d_O_feed_98 (by decide +kernel) ?_
          refine lv_topi (fun x_27 ex_27 => ?_)
          refine lv_imul hx hb d_O_feed_99 ?_
          refine lv_topi (fun x_28 ex_28 => ?_)
          refine lv_isub hx hb d_O_feed_100 ?_
          refine lv_topi (fun x_29 ex_29 => ?_)
          refine lv_ishr hx hb d_O_feed_101 ?_
          refine lv_topi (fun x_30 ex_30 => ?_)
          obtain ⟨x_31, ex_31⟩ : ∃ y : Int32, x_30.toInt8.toInt32 = y := ⟨_, rfl⟩
          refine lv_i2b (v := x_31) hx hb d_O_feed_102 ex_31 ?_
          refine va_bast hx hb hK hP hD hS 1 0 rfl rfl (vp_in_nI (by omega) (by decide)) d_O_feed_103 (fun H locs hP hD hS => ?_)
          replace hP : va_P (dC, dI) vwCl [(h0, .inr (7, [.int 0, .int 0, .int i_lasts, .ref hbuf, .int (nI j), .int i_documents, v_gone, v_first, v_many, v_lengths, v_authors, v_sums, v_row, v_made, .int i_madeSize, v_base, .int i_baseSize, v_text, .int i_textSize, .int i_textSteps, v_other, .int i_otherSize, v_piece, .int i_pieceSize, .int i_at, .int i_end, .int i_value])), (hbuf, .inl (cB, 256, .inl (upd (f) (Int32.toNatClampNeg (nI j)) (vp_nar .byte (x_31)))))] H := hP
          replace hD : va_D A [(h0, .inr (7, [.int 0, .int 0, .int i_lasts, .ref hbuf, .int (nI j), .int i_documents, v_gone, v_first, v_many, v_lengths, v_authors, v_sums, v_row, v_made, .int i_madeSize, v_base, .int i_baseSize, v_text, .int i_textSize, .int i_textSteps, v_other, .int i_otherSize, v_piece, .int i_pieceSize, .int i_at, .int i_end, .int i_value])), (hbuf, .inl (cB, 256, .inl (upd (f) (Int32.toNatClampNeg (nI j)) (vp_nar .byte (x_31)))))] := hD
          generalize upd (f) (Int32.toNatClampNeg (nI j)) (vp_nar .byte (x_31)) = f_32 at hP hD
          refine lv_aload_n hx hb d_O_feed_104 rfl (lv_at hl 2 rfl) ?_
          refine lv_dup hx hb d_O_feed_105 rfl ?_
          refine va_get (D := (dC, dI)) (ci := 7) (v := .int (nI j)) (C := R_O) (T := F_O) (N := 27) hx hb hw0 in_O hown hK hP 0 rfl rfl 4 (by decide) (hw0 (.fieldLink R_O 69 "TextKeeperModel" "size" "I") (List.mem_of_getElem? (i := 194) rfl)) (fun _ h9 => h9) rfl d_O_feed_106 ?_
          refine lv_iconst (v := 1) hx hb d_O_feed_109 (by decide) ?_
          refine lv_iadd hx hb d_O_feed_110 ?_
          refine lv_topi (fun x_33 ex_33 => ?_)
          obtain rfl : x_33 = nI (j + 1) := ex_33.trans (nI_1 j)
          clear ex_33
          refine va_put (D := (dC, dI)) (ci := 7) (v := .int (nI (j + 1))) (ty := .int) (C := R_O) (T := F_O) (N := 27) hx hb hw0 in_O ft_O tk_O nk_O hown hK hP hD hS 0 rfl rfl 4 (by decide) (hw0 (.fieldLink R_O 69 "TextKeeperModel" "size" "I") (List.mem_of_getElem? (i := 194) rfl)) (fun _ h9 => h9) rfl (by decide +kernel) rfl rfl (Nat.le_of_ble_eq_true rfl) d_O_feed_111 (fun H locs hP hD hS => ?_)
          replace hP : va_P (dC, dI) vwCl [(h0, .inr (7, [.int 0, .int 0, .int i_lasts, .ref hbuf, .int (nI (j + 1)), .int i_documents, v_gone, v_first, v_many, v_lengths, v_authors, v_sums, v_row, v_made, .int i_madeSize, v_base, .int i_baseSize, v_text, .int i_textSize, .int i_textSteps, v_other, .int i_otherSize, v_piece, .int i_pieceSize, .int i_at, .int i_end, .int i_value])), (hbuf, .inl (cB, 256, .inl (f_32)))] H := hP
          replace hD : va_D A [(h0, .inr (7, [.int 0, .int 0, .int i_lasts, .ref hbuf, .int (nI (j + 1)), .int i_documents, v_gone, v_first, v_many, v_lengths, v_authors, v_sums, v_row, v_made, .int i_madeSize, v_base, .int i_baseSize, v_text, .int i_textSize, .int i_textSteps, v_other, .int i_otherSize, v_piece, .int i_pieceSize, .int i_at, .int i_end, .int i_value])), (hbuf, .inl (cB, 256, .inl (f_32)))] := hD
          refine lv_iinc (v := nI (j + 1)) (lv' := [(6, .int (nI (j + 1))), (7, .int a2), (0, .ref h0), (1, .int a1), (2, .int a2), (3, .int a3), (4, .int a4), (5, .int a5)]) hx hb d_O_feed_114 hl (k := 1) rfl (nI_1 j) (by decide) rfl (fun ls hl => ?_)
          refine lv_goto (tgt := 26) hx hb d_O_feed_117 (by decide) ?_
          exact ih (j + 1) hlt (by omega) (f_32) _ _ hP hD hS ls (lv_sub hl [0, 2, 3, 4, 5, 6, 7] rfl)
      · refine lv_iload_n hx hb d_O_feed_39 rfl (lv_at hl 2 rfl) ?_
        refine lv_goto (tgt := 79) hx hb d_O_feed_40 (by decide) ?_
        refine lv_istore (lv' := [(7, .int a1), (6, .int (nI j)), (0, .ref h0), (1, .int a1), (2, .int a2), (3, .int a3), (4, .int a4), (5, .int a5)]) hx hb d_O_feed_79 hl (by decide) rfl (fun ls hl => ?_)
        refine lv_aload_n hx hb d_O_feed_81 rfl (lv_at hl 2 rfl) ?_
        refine va_get (D := (dC, dI)) (ci := 7) (v := .ref hbuf) (C := R_O) (T := F_O) (N := 27) hx hb hw0 in_O hown hK hP 0 rfl rfl 3 (by decide) (hw0 (.fieldLink R_O 13 "TextKeeperModel" "buffer" "[B") (List.mem_of_getElem? (i := 196) rfl)) (fun _ h9 => h9) rfl d_O_feed_82 ?_
        refine lv_aload_n hx hb d_O_feed_85 rfl (lv_at hl 2 rfl) ?_
        refine va_get (D := (dC, dI)) (ci := 7) (v := .int (nI j)) (C := R_O) (T := F_O) (N := 27) hx hb hw0 in_O hown hK hP 0 rfl rfl 4 (by decide) (hw0 (.fieldLink R_O 69 "TextKeeperModel" "size" "I") (List.mem_of_getElem? (i := 194) rfl)) (fun _ h9 => h9) rfl d_O_feed_86 ?_
        refine lv_iload hx hb d_O_feed_89 (lv_at hl 0 rfl) ?_
        refine lv_bipush (v := 24) hx hb d_O_feed_91 (by decide +kernel) ?_
        refine lv_bipush (v := 8) hx hb d_O_feed_93 (by decide +kernel) ?_
        refine lv_iload hx hb d_O_feed_95 (lv_at hl 1 rfl) ?_
        refine lv_iconst (v := 4) hx hb d_O_feed_97 (by decide) ?_
        refine lv_irem hx hb d_O_feed_98 (by decide +kernel) ?_
        refine lv_topi (fun x_34 ex_34 => ?_)
        refine lv_imul hx hb d_O_feed_99 ?_
        refine lv_topi (fun x_35 ex_35 => ?_)
        refine lv_isub hx hb d_O_feed_100 ?_
        refine lv_topi (fun x_36 ex_36 => ?_)
        refine lv_ishr hx hb d_O_feed_101 ?_
        refine lv_topi (fun x_37 ex_37 => ?_)
        obtain ⟨x_38, ex_38⟩ : ∃ y : Int32, x_37.toInt8.toInt32 = y := ⟨_, rfl⟩
        refine lv_i2b (v := x_38) hx hb d_O_feed_102 ex_38 ?_
        refine va_bast hx hb hK hP hD hS 1 0 rfl rfl (vp_in_nI (by omega) (by decide)) d_O_feed_103 (fun H locs hP hD hS => ?_)
        replace hP : va_P (dC, dI) vwCl [(h0, .inr (7, [.int 0, .int 0, .int i_lasts, .ref hbuf, .int (nI j), .int i_documents, v_gone, v_first, v_many, v_lengths, v_authors, v_sums, v_row, v_made, .int i_madeSize, v_base, .int i_baseSize, v_text, .int i_textSize, .int i_textSteps, v_other, .int i_otherSize, v_piece, .int i_pieceSize, .int i_at, .int i_end, .int i_value])), (hbuf, .inl (cB, 256, .inl (upd (f) (Int32.toNatClampNeg (nI j)) (vp_nar .byte (x_38)))))] H := hP
        replace hD : va_D A [(h0, .inr (7, [.int 0, .int 0, .int i_lasts, .ref hbuf, .int (nI j), .int i_documents, v_gone, v_first, v_many, v_lengths, v_authors, v_sums, v_row, v_made, .int i_madeSize, v_base, .int i_baseSize, v_text, .int i_textSize, .int i_textSteps, v_other, .int i_otherSize, v_piece, .int i_pieceSize, .int i_at, .int i_end, .int i_value])), (hbuf, .inl (cB, 256, .inl (upd (f) (Int32.toNatClampNeg (nI j)) (vp_nar .byte (x_38)))))] := hD
        generalize upd (f) (Int32.toNatClampNeg (nI j)) (vp_nar .byte (x_38)) = f_39 at hP hD
        refine lv_aload_n hx hb d_O_feed_104 rfl (lv_at hl 2 rfl) ?_
        refine lv_dup hx hb d_O_feed_105 rfl ?_
        refine va_get (D := (dC, dI)) (ci := 7) (v := .int (nI j)) (C := R_O) (T := F_O) (N := 27) hx hb hw0 in_O hown hK hP 0 rfl rfl 4 (by decide) (hw0 (.fieldLink R_O 69 "TextKeeperModel" "size" "I") (List.mem_of_getElem? (i := 194) rfl)) (fun _ h9 => h9) rfl d_O_feed_106 ?_
        refine lv_iconst (v := 1) hx hb d_O_feed_109 (by decide) ?_
        refine lv_iadd hx hb d_O_feed_110 ?_
        refine lv_topi (fun x_40 ex_40 => ?_)
        obtain rfl : x_40 = nI (j + 1) := ex_40.trans (nI_1 j)
        clear ex_40
        refine va_put (D := (dC, dI)) (ci := 7) (v := .int (nI (j + 1))) (ty := .int) (C := R_O) (T := F_O) (N := 27) hx hb hw0 in_O ft_O tk_O nk_O hown hK hP hD hS 0 rfl rfl 4 (by decide) (hw0 (.fieldLink R_O 69 "TextKeeperModel" "size" "I") (List.mem_of_getElem? (i := 194) rfl)) (fun _ h9 => h9) rfl (by decide +kernel) rfl rfl (Nat.le_of_ble_eq_true rfl) d_O_feed_111 (fun H locs hP hD hS => ?_)
        replace hP : va_P (dC, dI) vwCl [(h0, .inr (7, [.int 0, .int 0, .int i_lasts, .ref hbuf, .int (nI (j + 1)), .int i_documents, v_gone, v_first, v_many, v_lengths, v_authors, v_sums, v_row, v_made, .int i_madeSize, v_base, .int i_baseSize, v_text, .int i_textSize, .int i_textSteps, v_other, .int i_otherSize, v_piece, .int i_pieceSize, .int i_at, .int i_end, .int i_value])), (hbuf, .inl (cB, 256, .inl (f_39)))] H := hP
        replace hD : va_D A [(h0, .inr (7, [.int 0, .int 0, .int i_lasts, .ref hbuf, .int (nI (j + 1)), .int i_documents, v_gone, v_first, v_many, v_lengths, v_authors, v_sums, v_row, v_made, .int i_madeSize, v_base, .int i_baseSize, v_text, .int i_textSize, .int i_textSteps, v_other, .int i_otherSize, v_piece, .int i_pieceSize, .int i_at, .int i_end, .int i_value])), (hbuf, .inl (cB, 256, .inl (f_39)))] := hD
        refine lv_iinc (v := nI (j + 1)) (lv' := [(6, .int (nI (j + 1))), (7, .int a1), (0, .ref h0), (1, .int a1), (2, .int a2), (3, .int a3), (4, .int a4), (5, .int a5)]) hx hb d_O_feed_114 hl (k := 1) rfl (nI_1 j) (by decide) rfl (fun ls hl => ?_)
        refine lv_goto (tgt := 26) hx hb d_O_feed_117 (by decide) ?_
        exact ih (j + 1) hlt (by omega) (f_39) _ _ hP hD hS ls (lv_sub hl [0, 2, 3, 4, 5, 6, 7] rfl)
set_option maxHeartbeats 4000000 in
set_option maxRecDepth 100000 in
theorem lp_free {p : Program} {l : Launch} {e : Env} {s : State} {m : MethodId} {args : Array Value} {below : List Frame} {meth : Method} {c : Code} {dC : Nat → ClassId} {dI : Nat → Nat → Nat} {A : Nat → Prop} {Q : State → Prop} (h0 : Nat) (i_thrown : Int32) (i_down : Int32) (i_lasts : Int32) (v_buffer : Value) (i_size : Int32) (i_documents : Int32) (v_gone : Value) (v_first : Value) (v_many : Value) (v_authors : Value) (v_sums : Value) (v_row : Value) (v_made : Value) (i_madeSize : Int32) (v_base : Value) (i_baseSize : Int32) (v_text : Value) (i_textSize : Int32) (i_textSteps : Int32) (v_other : Value) (i_otherSize : Int32) (v_piece : Value) (i_pieceSize : Int32) (i_at : Int32) (i_end : Int32) (i_value : Int32) (hlen : Nat) (cS : ClassId) (g : Nat → Int32) (hg : ∀ i, i < 512 → g i = (-1))
    (hx : p.tables.exec = Jvm.exec) (hb : c.code = prog_9_method_12_code) (hml : c.maxLocals = 3) (hown : s.vm.findClass R_O = some m.cls) (hw0 : ∀ w ∈ w0, w.before args s = true) (hN : nw_ok s) (hK : va_K (dC, dI) vwCl [(cS, .short)] s) (hA : ∀ q : Nat, s.heap.size ≤ q → A q)
    (kk : ∀ (H : Heap) (locs : List Loc), va_P (dC, dI) vwCl [(h0, .inr (7, [.int i_thrown, .int i_down, .int i_lasts, v_buffer, .int i_size, .int i_documents, v_gone, v_first, v_many, .ref hlen, v_authors, v_sums, v_row, v_made, .int i_madeSize, v_base, .int i_baseSize, v_text, .int i_textSize, .int i_textSteps, v_other, .int i_otherSize, v_piece, .int i_pieceSize, .int i_at, .int i_end, .int i_value])), (hlen, .inl (cS, 512, .inl (g)))] H → va_D A [(h0, .inr (7, [.int i_thrown, .int i_down, .int i_lasts, v_buffer, .int i_size, .int i_documents, v_gone, v_first, v_many, .ref hlen, v_authors, v_sums, v_row, v_made, .int i_madeSize, v_base, .int i_baseSize, v_text, .int i_textSize, .int i_textSteps, v_other, .int i_otherSize, v_piece, .int i_pieceSize, .int i_at, .int i_end, .int i_value])), (hlen, .inl (cS, 512, .inl (g)))] → va_S A s.heap H locs → ∀ ls : Array Slot, lv_has ls 3 [(2, .int (nI 512)), (1, .int 512), (0, .ref h0)] → W p l e ({ frames := 0, cells := 0, slots := 0, locals := 0 } : Room) s m args below meth c H locs 0 0 Q (F0 m 44 ls [])) :
    ∀ (n j : Nat), j ≤ 512 → 512 < j + n → ∀ (H : Heap) (locs : List Loc), va_P (dC, dI) vwCl [(h0, .inr (7, [.int i_thrown, .int i_down, .int i_lasts, v_buffer, .int i_size, .int i_documents, v_gone, v_first, v_many, .ref hlen, v_authors, v_sums, v_row, v_made, .int i_madeSize, v_base, .int i_baseSize, v_text, .int i_textSize, .int i_textSteps, v_other, .int i_otherSize, v_piece, .int i_pieceSize, .int i_at, .int i_end, .int i_value])), (hlen, .inl (cS, 512, .inl (g)))] H → va_D A [(h0, .inr (7, [.int i_thrown, .int i_down, .int i_lasts, v_buffer, .int i_size, .int i_documents, v_gone, v_first, v_many, .ref hlen, v_authors, v_sums, v_row, v_made, .int i_madeSize, v_base, .int i_baseSize, v_text, .int i_textSize, .int i_textSteps, v_other, .int i_otherSize, v_piece, .int i_pieceSize, .int i_at, .int i_end, .int i_value])), (hlen, .inl (cS, 512, .inl (g)))] → va_S A s.heap H locs → ∀ ls : Array Slot, lv_has ls 3 [(2, .int (nI j)), (1, .int 512), (0, .ref h0)] → W p l e ({ frames := 0, cells := 0, slots := 0, locals := 0 } : Room) s m args below meth c H locs 0 0 Q (F0 m 6 ls []) := by
  intro n
  induction n with
  | zero => intro j h1 h2; exact absurd h2 (by omega)
  | succ n ih =>
    intro j hj hn   H locs hP hD hS ls hl
    refine lv_iload_n hx hb d_O_free_6 rfl (lv_at hl 0 rfl) ?_
    refine lv_sipush (v := 512) hx hb d_O_free_7 (by decide +kernel) ?_
    refine lv_icmp_ge (tgt := 44) hx hb d_O_free_10 (by decide) (fun c_1 => ?_) (fun c_1 => ?_)
    · obtain rfl : j = 512 := x_geN (by decide) hj c_1
      exact kk _ _ hP hD hS ls (lv_sub hl [0, 1, 2] rfl)
    · have hlt : j < 512 := x_ltN (by decide) hj c_1
      refine lv_iload_n hx hb d_O_free_13 rfl (lv_at hl 1 rfl) ?_
      refine lv_aload_n hx hb d_O_free_14 rfl (lv_at hl 2 rfl) ?_
      refine va_get (D := (dC, dI)) (ci := 7) (v := .ref hlen) (C := R_O) (T := F_O) (N := 27) hx hb hw0 in_O hown hK hP 0 rfl rfl 9 (by decide) (hw0 (.fieldLink R_O 28 "TextKeeperModel" "lengths" "[S") (List.mem_of_getElem? (i := 195) rfl)) (fun _ h9 => h9) rfl d_O_free_15 ?_
      refine lv_iload_n hx hb d_O_free_18 rfl (lv_at hl 0 rfl) ?_
      refine va_sald hx hb hK hP 1 0 rfl rfl (vp_in_nI hlt (by decide)) d_O_free_19 ?_
      refine lv_topi (fun x_2 ex_2 => ?_)
      obtain rfl : x_2 = (-1) := ex_2.trans (by rw [nI_clamp (by omega)]; exact hg j hlt)
      clear ex_2
      refine lv_if_le (tgt := 35) hx hb d_O_free_20 (by decide) (fun _ => ?_) (fun h9 => absurd h9 (by decide +kernel))
      refine lv_iconst (v := 0) hx hb d_O_free_35 (by decide) ?_
      refine lv_isub hx hb d_O_free_36 ?_
      refine lv_topi (fun x_3 ex_3 => ?_)
      obtain rfl : x_3 = 512 := ex_3.trans (by decide +kernel)
      clear ex_3
      refine lv_istore_n (lv' := [(1, .int 512), (2, .int (nI j)), (0, .ref h0)]) hx hb d_O_free_37 rfl hl (by decide) rfl (fun ls hl => ?_)
      refine lv_iinc (v := nI (j + 1)) (lv' := [(2, .int (nI (j + 1))), (1, .int 512), (0, .ref h0)]) hx hb d_O_free_38 hl (k := 1) rfl (nI_1 j) (by decide) rfl (fun ls hl => ?_)
      refine lv_goto (tgt := 6) hx hb d_O_free_41 (by decide) ?_
      exact ih (j + 1) hlt (by omega) _ _ hP hD hS ls (lv_sub hl [0, 1, 2] rfl)
set_option maxHeartbeats 4000000 in
set_option maxRecDepth 100000 in
theorem lp_verify {p : Program} {l : Launch} {e : Env} {s : State} {m : MethodId} {args : Array Value} {below : List Frame} {meth : Method} {c : Code} {dC : Nat → ClassId} {dI : Nat → Nat → Nat} {A : Nat → Prop} {Q : State → Prop} (h0 : Nat) (i_lasts : Int32) (v_buffer : Value) (i_size : Int32) (v_gone : Value) (v_first : Value) (v_many : Value) (v_lengths : Value) (v_authors : Value) (v_sums : Value) (v_row : Value) (v_made : Value) (i_madeSize : Int32) (v_base : Value) (i_baseSize : Int32) (v_text : Value) (i_textSize : Int32) (i_textSteps : Int32) (v_other : Value) (i_otherSize : Int32) (v_piece : Value) (i_pieceSize : Int32) (i_at : Int32) (i_end : Int32) (i_value : Int32) (a1 : Int32) 
    (hx : p.tables.exec = Jvm.exec) (hb : c.code = prog_9_method_37_code) (hml : c.maxLocals = 3) (hown : s.vm.findClass R_O = some m.cls) (hw0 : ∀ w ∈ w0, w.before args s = true) (hN : nw_ok s) (hK : va_K (dC, dI) vwCl [] s) (hA : ∀ q : Nat, s.heap.size ≤ q → A q)
    (kk : ∀ (H : Heap) (locs : List Loc), va_P (dC, dI) vwCl [(h0, .inr (7, [.int 0, .int 0, .int i_lasts, v_buffer, .int i_size, .int 0, v_gone, v_first, v_many, v_lengths, v_authors, v_sums, v_row, v_made, .int i_madeSize, v_base, .int i_baseSize, v_text, .int i_textSize, .int i_textSteps, v_other, .int i_otherSize, v_piece, .int i_pieceSize, .int i_at, .int i_end, .int i_value]))] H → va_D A [(h0, .inr (7, [.int 0, .int 0, .int i_lasts, v_buffer, .int i_size, .int 0, v_gone, v_first, v_many, v_lengths, v_authors, v_sums, v_row, v_made, .int i_madeSize, v_base, .int i_baseSize, v_text, .int i_textSize, .int i_textSteps, v_other, .int i_otherSize, v_piece, .int i_pieceSize, .int i_at, .int i_end, .int i_value]))] → va_S A s.heap H locs → ∀ ls : Array Slot, lv_has ls 3 [(2, .int (nI 64)), (0, .ref h0), (1, .int a1)] → W p l e ({ frames := 2, cells := 0, slots := 0, locals := 43 } : Room) s m args below meth c H locs 0 0 Q (F0 m 70 ls [])) :
    ∀ (n j : Nat), j ≤ 64 → 64 < j + n → ∀ (H : Heap) (locs : List Loc), va_P (dC, dI) vwCl [(h0, .inr (7, [.int 0, .int 0, .int i_lasts, v_buffer, .int i_size, .int 0, v_gone, v_first, v_many, v_lengths, v_authors, v_sums, v_row, v_made, .int i_madeSize, v_base, .int i_baseSize, v_text, .int i_textSize, .int i_textSteps, v_other, .int i_otherSize, v_piece, .int i_pieceSize, .int i_at, .int i_end, .int i_value]))] H → va_D A [(h0, .inr (7, [.int 0, .int 0, .int i_lasts, v_buffer, .int i_size, .int 0, v_gone, v_first, v_many, v_lengths, v_authors, v_sums, v_row, v_made, .int i_madeSize, v_base, .int i_baseSize, v_text, .int i_textSize, .int i_textSteps, v_other, .int i_otherSize, v_piece, .int i_pieceSize, .int i_at, .int i_end, .int i_value]))] → va_S A s.heap H locs → ∀ ls : Array Slot, lv_has ls 3 [(2, .int (nI j)), (0, .ref h0), (1, .int a1)] → W p l e ({ frames := 2, cells := 0, slots := 0, locals := 43 } : Room) s m args below meth c H locs 0 0 Q (F0 m 12 ls []) := by
  intro n
  induction n with
  | zero => intro j h1 h2; exact absurd h2 (by omega)
  | succ n ih =>
    intro j hj hn   H locs hP hD hS ls hl
    refine lv_iload_n hx hb d_O_verify_12 rfl (lv_at hl 0 rfl) ?_
    refine lv_bipush (v := 64) hx hb d_O_verify_13 (by decide +kernel) ?_
    refine lv_icmp_ge (tgt := 70) hx hb d_O_verify_15 (by decide) (fun c_1 => ?_) (fun c_1 => ?_)
    · obtain rfl : j = 64 := x_geN (by decide) hj c_1
      exact kk _ _ hP hD hS ls (lv_sub hl [0, 1, 2] rfl)
    · have hlt : j < 64 := x_ltN (by decide) hj c_1
      refine lv_aload_n hx hb d_O_verify_18 rfl (lv_at hl 1 rfl) ?_
      refine lv_iload_n hx hb d_O_verify_19 rfl (lv_at hl 2 rfl) ?_
      refine lv_iload_n hx hb d_O_verify_20 rfl (lv_at hl 0 rfl) ?_
      have hPc := hP.sub (ws' := [(h0, .inr (7, [.int 0, .int 0, .int i_lasts, v_buffer, .int i_size, .int 0, v_gone, v_first, v_many, v_lengths, v_authors, v_sums, v_row, v_made, .int i_madeSize, v_base, .int i_baseSize, v_text, .int i_textSize, .int i_textSteps, v_other, .int i_otherSize, v_piece, .int i_pieceSize, .int i_at, .int i_end, .int i_value]))]) [0] rfl
      have hKc := hK.sub (tys' := []) [] rfl
      refine ps_i (va_runV (As := [.int a1, .int (nI j)]) (rest := []) ⟨hx, hb, hml, hown, hw0⟩ (m_isAsked l dC dI h0 0 0 i_lasts v_buffer i_size v_gone v_first v_many v_lengths v_authors v_sums v_row v_made i_madeSize v_base i_baseSize v_text i_textSize i_textSteps v_other i_otherSize v_piece i_pieceSize i_at i_end i_value a1 (nI j)) (cwV 2 hw0 (gd_V 184 185 186 173 187 rfl rfl rfl rfl rfl) rfl rfl rfl (by decide +kernel) ⟨by decide +kernel, by decide +kernel⟩) (prV_R hPc hKc hN (va_recv hKc hPc (ci := 7) (q0 := 0) rfl rfl)) rfl rfl hl.1 rfl (lv_room (Nat.le_of_ble_eq_true rfl)) d_O_verify_21 ⟨by decide +kernel, by decide +kernel⟩) (fun r_2 hr_2 => ?_)
      obtain rfl : r_2 = 0 := hr_2
      refine lv_if_eq (tgt := 64) hx hb d_O_verify_24 (by decide) (fun _ => ?_) (fun h9 => absurd h9 (by decide +kernel))
      refine lv_iinc (v := nI (j + 1)) (lv' := [(2, .int (nI (j + 1))), (0, .ref h0), (1, .int a1)]) hx hb d_O_verify_64 hl (k := 0) rfl (nI_1 j) (by decide) rfl (fun ls hl => ?_)
      refine lv_goto (tgt := 12) hx hb d_O_verify_67 (by decide) ?_
      exact ih (j + 1) hlt (by omega) _ _ hP hD hS ls (lv_sub hl [0, 1, 2] rfl)
set_option maxHeartbeats 4000000 in
set_option maxRecDepth 100000 in
theorem m_init (l : Launch) (dC : Nat → ClassId) (dI : Nat → Nat → Nat) (sz : Nat) (h0 : Nat)  : Met l y_O_init k_O_init ({ frames := 1, cells := 13, slots := 19824, locals := 16 } : Room) (va_Pc [.ref h0] (pc_E (dC, dI) [(h0, .inr (7, [.int 0, .int 0, .int 0, .null, .int 0, .int 0, .null, .null, .null, .null, .null, .null, .null, .null, .int 0, .null, .int 0, .null, .int 0, .int 0, .null, .int 0, .null, .int 0, .int 0, .int 0, .int 0]))] [] sz)) (va_Qv (fun (_ : Unit) => True) (fun (_ : Unit) t => ∃ (q_buffer : Nat) (q_gone : Nat) (q_first : Nat) (q_many : Nat) (q_lengths : Nat) (q_authors : Nat) (q_sums : Nat) (q_row : Nat) (q_made : Nat) (q_base : Nat) (q_text : Nat) (q_other : Nat) (q_piece : Nat) (cB : ClassId) (cS : ClassId) (g : Nat → Int32), (∀ i, i < 512 → g i = (-1)) ∧ at_E (dC, dI) (va_A [(h0, .inr (7, [.int 0, .int 0, .int 0, .null, .int 0, .int 0, .null, .null, .null, .null, .null, .null, .null, .null, .int 0, .null, .int 0, .null, .int 0, .int 0, .null, .int 0, .null, .int 0, .int 0, .int 0, .int 0]))] sz) [(h0, .inr (7, [.int 0, .int 0, .int (-1), .ref q_buffer, .int 0, .int 0, .ref q_gone, .ref q_first, .ref q_many, .ref q_lengths, .ref q_authors, .ref q_sums, .ref q_row, .ref q_made, .int 0, .ref q_base, .int 0, .ref q_text, .int (-1), .int (-1), .ref q_other, .int 0, .ref q_piece, .int 0, .int 0, .int 0, .int 0])), (q_buffer, .inl (cB, 256, .inl (fun _ => 0))), (q_lengths, .inl (cS, 512, .inl (g)))] [(cB, .byte), (cS, .short)] t) (va_A [(h0, .inr (7, [.int 0, .int 0, .int 0, .null, .int 0, .int 0, .null, .null, .null, .null, .null, .null, .null, .null, .int 0, .null, .int 0, .null, .int 0, .int 0, .null, .int 0, .null, .int 0, .int 0, .int 0, .int 0]))] sz)) 13 19824 (va_A [(h0, .inr (7, [.int 0, .int 0, .int 0, .null, .int 0, .int 0, .null, .null, .null, .null, .null, .null, .null, .null, .int 0, .null, .int 0, .null, .int 0, .int 0, .null, .int 0, .null, .int 0, .int 0, .int 0, .int 0]))] sz) := by
  refine Met.ofW (cc := prog_9_method_1_code) (maxL := 2) (ret := none) (by decide) rfl ?_
  intro p e s m args below meth c s₁ B hml hv
  obtain ⟨rfl, hsz, hP, hK, hD0, hN⟩ := hv
  have hx := B.exec
  have hb := B.bytes
  have hr := B.returns
  have hts := atoms_spec (ws := k_O_init) B.pre
  have hw0 : ∀ w ∈ w0, w.before _ s = true := fun w h => hts w (List.mem_cons_of_mem _ h)
  have hown : s.vm.findClass R_O = some m.cls := findClass_of_methodNamed B.named
  have hlocks := B.notSynchronized
  have hin : meth.name = "<init>" := (name_of_methodNamed B.named B.method).1
  subst hsz
  have hD := hD0.self (sz := s.heap.size)
  generalize hAe : va_A [(h0, .inr (7, [.int 0, .int 0, .int 0, .null, .int 0, .int 0, .null, .null, .null, .null, .null, .null, .null, .null, .int 0, .null, .int 0, .null, .int 0, .int 0, .null, .int 0, .null, .int 0, .int 0, .int 0, .int 0]))] s.heap.size = A at hD ⊢
  have hA : ∀ q : Nat, s.heap.size ≤ q → A q := fun q h => by rw [← hAe]; exact Or.inr h
  have hS : va_S A s.heap s.heap [] := va_S.rf
  have hP : va_P (dC, dI) vwCl [(h0, .inr (7, [.int 0, .int 0, .int 0, .null, .int 0, .int 0, .null, .null, .null, .null, .null, .null, .null, .null, .int 0, .null, .int 0, .null, .int 0, .int 0, .null, .int 0, .null, .int 0, .int 0, .int 0, .int 0]))] s.heap := hP
  have hl := lv_entry ([.ref h0]) (n := 2) (Nat.le_of_ble_eq_true rfl)
  rw [lg_entry_eq]
  generalize (lg_sl ([.ref h0]) ++ List.replicate (2 - (lg_sl ([.ref h0])).length) Slot.unset).toArray = ls at hl ⊢
  have hl : lv_has ls 2 [(0, .ref h0)] := hl
  refine lv_aload_n hx hb d_O_init_0 rfl (lv_at hl 0 rfl) ?_
  refine W.objInit hx hb hown (hw0 (.methodLink R_O 1 objectInit) (List.mem_of_getElem? (i := 197) rfl)) (hw0 (.instanceMethod objectInit) (List.mem_of_getElem? (i := 54) rfl)) (hw0 (.code objectInit ⟨#[0xb1]⟩ 1 none) (List.mem_of_getElem? (i := 55) rfl)) rfl (by rw [hml]; exact hl.1) rfl d_O_init_1 (Nat.le_of_ble_eq_true rfl) (Nat.le_of_ble_eq_true rfl) ?_
  refine W.eq (g2 := F0 m 4 ls []) rfl ?_
  refine lv_aload_n hx hb d_O_init_4 rfl (lv_at hl 0 rfl) ?_
  refine lv_iconst (v := (-1)) hx hb d_O_init_5 (by decide) ?_
  refine va_put (D := (dC, dI)) (ci := 7) (v := .int (-1)) (ty := .int) (C := R_O) (T := F_O) (N := 27) hx hb hw0 in_O ft_O tk_O nk_O hown hK hP hD hS 0 rfl rfl 2 (by decide) (hw0 (.fieldLink R_O 9 "TextKeeperModel" "lasts" "I") (List.mem_of_getElem? (i := 175) rfl)) (fun _ h9 => h9) rfl (by decide +kernel) rfl rfl (Nat.le_of_ble_eq_true rfl) d_O_init_6 (fun H locs hP hD hS => ?_)
  replace hP : va_P (dC, dI) vwCl [(h0, .inr (7, [.int 0, .int 0, .int (-1), .null, .int 0, .int 0, .null, .null, .null, .null, .null, .null, .null, .null, .int 0, .null, .int 0, .null, .int 0, .int 0, .null, .int 0, .null, .int 0, .int 0, .int 0, .int 0]))] H := hP
  replace hD : va_D A [(h0, .inr (7, [.int 0, .int 0, .int (-1), .null, .int 0, .int 0, .null, .null, .null, .null, .null, .null, .null, .null, .int 0, .null, .int 0, .null, .int 0, .int 0, .null, .int 0, .null, .int 0, .int 0, .int 0, .int 0]))] := hD
  refine lv_aload_n hx hb d_O_init_9 rfl (lv_at hl 0 rfl) ?_
  refine lv_sipush (v := 256) hx hb d_O_init_10 (by decide +kernel) ?_
  refine va_newa (atype := .byte) (ty := .byte) (N' := 256) (a0 := (256, .inl (fun _ => 0))) hx hb (hw0 (.arrayClass .byte) (List.mem_of_getElem? (i := 60) rfl)) rfl hK hP hD hS hA (fun _ => rfl) (by decide +kernel) (by decide +kernel) (by decide +kernel) (by decide +kernel) (by decide +kernel) d_O_init_13 (fun q_1 cA_2 H hK hP hD hS => ?_)
  replace hK : va_K (dC, dI) vwCl [(cA_2, .byte)] s := hK
  replace hP : va_P (dC, dI) vwCl [(h0, .inr (7, [.int 0, .int 0, .int (-1), .null, .int 0, .int 0, .null, .null, .null, .null, .null, .null, .null, .null, .int 0, .null, .int 0, .null, .int 0, .int 0, .null, .int 0, .null, .int 0, .int 0, .int 0, .int 0])), (q_1, .inl (cA_2, 256, .inl (fun _ => 0)))] H := hP
  replace hD : va_D A [(h0, .inr (7, [.int 0, .int 0, .int (-1), .null, .int 0, .int 0, .null, .null, .null, .null, .null, .null, .null, .null, .int 0, .null, .int 0, .null, .int 0, .int 0, .null, .int 0, .null, .int 0, .int 0, .int 0, .int 0])), (q_1, .inl (cA_2, 256, .inl (fun _ => 0)))] := hD
  refine W.widen (k := 1) (n := 256) (by decide +kernel) (by decide +kernel) ?_
  refine va_putF (D := (dC, dI)) (ci := 7) (v := .ref q_1) (ty := (.array .byte)) (C := R_O) (T := F_O) (N := 27) hx hb hw0 in_O ft_O tk_O nk_O hown hK hP hD hS 0 rfl rfl 3 (by decide) (hw0 (.fieldLink R_O 13 "TextKeeperModel" "buffer" "[B") (List.mem_of_getElem? (i := 196) rfl)) (fun _ h9 => h9) rfl hin rfl (by decide +kernel) rfl rfl (Nat.le_of_ble_eq_true rfl) d_O_init_15 (fun H locs hP hD hS => ?_)
  replace hP : va_P (dC, dI) vwCl [(h0, .inr (7, [.int 0, .int 0, .int (-1), .ref q_1, .int 0, .int 0, .null, .null, .null, .null, .null, .null, .null, .null, .int 0, .null, .int 0, .null, .int 0, .int 0, .null, .int 0, .null, .int 0, .int 0, .int 0, .int 0])), (q_1, .inl (cA_2, 256, .inl (fun _ => 0)))] H := hP
  replace hD : va_D A [(h0, .inr (7, [.int 0, .int 0, .int (-1), .ref q_1, .int 0, .int 0, .null, .null, .null, .null, .null, .null, .null, .null, .int 0, .null, .int 0, .null, .int 0, .int 0, .null, .int 0, .null, .int 0, .int 0, .int 0, .int 0])), (q_1, .inl (cA_2, 256, .inl (fun _ => 0)))] := hD
  refine lv_aload_n hx hb d_O_init_18 rfl (lv_at hl 0 rfl) ?_
  refine lv_bipush (v := 8) hx hb d_O_init_19 (by decide +kernel) ?_
  refine va_newa (atype := .boolean) (ty := .boolean) (N' := 8) (a0 := (8, .inl (fun _ => 0))) hx hb (hw0 (.arrayClass .boolean) (List.mem_of_getElem? (i := 198) rfl)) rfl hK hP hD hS hA (fun _ => rfl) (by decide +kernel) (by decide +kernel) (by decide +kernel) (by decide +kernel) (by decide +kernel) d_O_init_21 (fun q_3 cA_4 H hK hP hD hS => ?_)
  replace hK : va_K (dC, dI) vwCl [(cA_2, .byte), (cA_4, .boolean)] s := hK
  replace hP : va_P (dC, dI) vwCl [(h0, .inr (7, [.int 0, .int 0, .int (-1), .ref q_1, .int 0, .int 0, .null, .null, .null, .null, .null, .null, .null, .null, .int 0, .null, .int 0, .null, .int 0, .int 0, .null, .int 0, .null, .int 0, .int 0, .int 0, .int 0])), (q_1, .inl (cA_2, 256, .inl (fun _ => 0))), (q_3, .inl (cA_4, 8, .inl (fun _ => 0)))] H := hP
  replace hD : va_D A [(h0, .inr (7, [.int 0, .int 0, .int (-1), .ref q_1, .int 0, .int 0, .null, .null, .null, .null, .null, .null, .null, .null, .int 0, .null, .int 0, .null, .int 0, .int 0, .null, .int 0, .null, .int 0, .int 0, .int 0, .int 0])), (q_1, .inl (cA_2, 256, .inl (fun _ => 0))), (q_3, .inl (cA_4, 8, .inl (fun _ => 0)))] := hD
  refine W.widen (k := 2) (n := 264) (by decide +kernel) (by decide +kernel) ?_
  refine va_putF (D := (dC, dI)) (ci := 7) (v := .ref q_3) (ty := (.array .boolean)) (C := R_O) (T := F_O) (N := 27) hx hb hw0 in_O ft_O tk_O nk_O hown hK hP hD hS 0 rfl rfl 6 (by decide) (hw0 (.fieldLink R_O 17 "TextKeeperModel" "gone" "[Z") (List.mem_of_getElem? (i := 199) rfl)) (fun _ h9 => h9) rfl hin rfl (by decide +kernel) rfl rfl (Nat.le_of_ble_eq_true rfl) d_O_init_23 (fun H locs hP hD hS => ?_)
  replace hP : va_P (dC, dI) vwCl [(h0, .inr (7, [.int 0, .int 0, .int (-1), .ref q_1, .int 0, .int 0, .ref q_3, .null, .null, .null, .null, .null, .null, .null, .int 0, .null, .int 0, .null, .int 0, .int 0, .null, .int 0, .null, .int 0, .int 0, .int 0, .int 0])), (q_1, .inl (cA_2, 256, .inl (fun _ => 0))), (q_3, .inl (cA_4, 8, .inl (fun _ => 0)))] H := hP
  replace hD : va_D A [(h0, .inr (7, [.int 0, .int 0, .int (-1), .ref q_1, .int 0, .int 0, .ref q_3, .null, .null, .null, .null, .null, .null, .null, .int 0, .null, .int 0, .null, .int 0, .int 0, .null, .int 0, .null, .int 0, .int 0, .int 0, .int 0])), (q_1, .inl (cA_2, 256, .inl (fun _ => 0))), (q_3, .inl (cA_4, 8, .inl (fun _ => 0)))] := hD
  refine lv_aload_n hx hb d_O_init_26 rfl (lv_at hl 0 rfl) ?_
  refine lv_bipush (v := 8) hx hb d_O_init_27 (by decide +kernel) ?_
  refine va_newa (atype := .int) (ty := .int) (N' := 8) (a0 := (8, .inl (fun _ => 0))) hx hb (hw0 (.arrayClass .int) (List.mem_of_getElem? (i := 200) rfl)) rfl hK hP hD hS hA (fun _ => rfl) (by decide +kernel) (by decide +kernel) (by decide +kernel) (by decide +kernel) (by decide +kernel) d_O_init_29 (fun q_5 cA_6 H hK hP hD hS => ?_)
  replace hK : va_K (dC, dI) vwCl [(cA_2, .byte), (cA_4, .boolean), (cA_6, .int)] s := hK
  replace hP : va_P (dC, dI) vwCl [(h0, .inr (7, [.int 0, .int 0, .int (-1), .ref q_1, .int 0, .int 0, .ref q_3, .null, .null, .null, .null, .null, .null, .null, .int 0, .null, .int 0, .null, .int 0, .int 0, .null, .int 0, .null, .int 0, .int 0, .int 0, .int 0])), (q_1, .inl (cA_2, 256, .inl (fun _ => 0))), (q_3, .inl (cA_4, 8, .inl (fun _ => 0))), (q_5, .inl (cA_6, 8, .inl (fun _ => 0)))] H := hP
  replace hD : va_D A [(h0, .inr (7, [.int 0, .int 0, .int (-1), .ref q_1, .int 0, .int 0, .ref q_3, .null, .null, .null, .null, .null, .null, .null, .int 0, .null, .int 0, .null, .int 0, .int 0, .null, .int 0, .null, .int 0, .int 0, .int 0, .int 0])), (q_1, .inl (cA_2, 256, .inl (fun _ => 0))), (q_3, .inl (cA_4, 8, .inl (fun _ => 0))), (q_5, .inl (cA_6, 8, .inl (fun _ => 0)))] := hD
  refine W.widen (k := 3) (n := 272) (by decide +kernel) (by decide +kernel) ?_
  refine va_putF (D := (dC, dI)) (ci := 7) (v := .ref q_5) (ty := (.array .int)) (C := R_O) (T := F_O) (N := 27) hx hb hw0 in_O ft_O tk_O nk_O hown hK hP hD hS 0 rfl rfl 7 (by decide) (hw0 (.fieldLink R_O 21 "TextKeeperModel" "first" "[I") (List.mem_of_getElem? (i := 201) rfl)) (fun _ h9 => h9) rfl hin rfl (by decide +kernel) rfl rfl (Nat.le_of_ble_eq_true rfl) d_O_init_31 (fun H locs hP hD hS => ?_)
  replace hP : va_P (dC, dI) vwCl [(h0, .inr (7, [.int 0, .int 0, .int (-1), .ref q_1, .int 0, .int 0, .ref q_3, .ref q_5, .null, .null, .null, .null, .null, .null, .int 0, .null, .int 0, .null, .int 0, .int 0, .null, .int 0, .null, .int 0, .int 0, .int 0, .int 0])), (q_1, .inl (cA_2, 256, .inl (fun _ => 0))), (q_3, .inl (cA_4, 8, .inl (fun _ => 0))), (q_5, .inl (cA_6, 8, .inl (fun _ => 0)))] H := hP
  replace hD : va_D A [(h0, .inr (7, [.int 0, .int 0, .int (-1), .ref q_1, .int 0, .int 0, .ref q_3, .ref q_5, .null, .null, .null, .null, .null, .null, .int 0, .null, .int 0, .null, .int 0, .int 0, .null, .int 0, .null, .int 0, .int 0, .int 0, .int 0])), (q_1, .inl (cA_2, 256, .inl (fun _ => 0))), (q_3, .inl (cA_4, 8, .inl (fun _ => 0))), (q_5, .inl (cA_6, 8, .inl (fun _ => 0)))] := hD
  refine lv_aload_n hx hb d_O_init_34 rfl (lv_at hl 0 rfl) ?_
  refine lv_bipush (v := 8) hx hb d_O_init_35 (by decide +kernel) ?_
  refine va_newa (atype := .int) (ty := .int) (N' := 8) (a0 := (8, .inl (fun _ => 0))) hx hb (hw0 (.arrayClass .int) (List.mem_of_getElem? (i := 200) rfl)) rfl hK hP hD hS hA (fun _ => rfl) (by decide +kernel) (by decide +kernel) (by decide +kernel) (by decide +kernel) (by decide +kernel) d_O_init_37 (fun q_7 cA_8 H hK hP hD hS => ?_)
  replace hK : va_K (dC, dI) vwCl [(cA_2, .byte), (cA_4, .boolean), (cA_6, .int), (cA_8, .int)] s := hK
  replace hP : va_P (dC, dI) vwCl [(h0, .inr (7, [.int 0, .int 0, .int (-1), .ref q_1, .int 0, .int 0, .ref q_3, .ref q_5, .null, .null, .null, .null, .null, .null, .int 0, .null, .int 0, .null, .int 0, .int 0, .null, .int 0, .null, .int 0, .int 0, .int 0, .int 0])), (q_1, .inl (cA_2, 256, .inl (fun _ => 0))), (q_3, .inl (cA_4, 8, .inl (fun _ => 0))), (q_5, .inl (cA_6, 8, .inl (fun _ => 0))), (q_7, .inl (cA_8, 8, .inl (fun _ => 0)))] H := hP
  replace hD : va_D A [(h0, .inr (7, [.int 0, .int 0, .int (-1), .ref q_1, .int 0, .int 0, .ref q_3, .ref q_5, .null, .null, .null, .null, .null, .null, .int 0, .null, .int 0, .null, .int 0, .int 0, .null, .int 0, .null, .int 0, .int 0, .int 0, .int 0])), (q_1, .inl (cA_2, 256, .inl (fun _ => 0))), (q_3, .inl (cA_4, 8, .inl (fun _ => 0))), (q_5, .inl (cA_6, 8, .inl (fun _ => 0))), (q_7, .inl (cA_8, 8, .inl (fun _ => 0)))] := hD
  refine W.widen (k := 4) (n := 280) (by decide +kernel) (by decide +kernel) ?_
  refine va_putF (D := (dC, dI)) (ci := 7) (v := .ref q_7) (ty := (.array .int)) (C := R_O) (T := F_O) (N := 27) hx hb hw0 in_O ft_O tk_O nk_O hown hK hP hD hS 0 rfl rfl 8 (by decide) (hw0 (.fieldLink R_O 25 "TextKeeperModel" "many" "[I") (List.mem_of_getElem? (i := 202) rfl)) (fun _ h9 => h9) rfl hin rfl (by decide +kernel) rfl rfl (Nat.le_of_ble_eq_true rfl) d_O_init_39 (fun H locs hP hD hS => ?_)
  replace hP : va_P (dC, dI) vwCl [(h0, .inr (7, [.int 0, .int 0, .int (-1), .ref q_1, .int 0, .int 0, .ref q_3, .ref q_5, .ref q_7, .null, .null, .null, .null, .null, .int 0, .null, .int 0, .null, .int 0, .int 0, .null, .int 0, .null, .int 0, .int 0, .int 0, .int 0])), (q_1, .inl (cA_2, 256, .inl (fun _ => 0))), (q_3, .inl (cA_4, 8, .inl (fun _ => 0))), (q_5, .inl (cA_6, 8, .inl (fun _ => 0))), (q_7, .inl (cA_8, 8, .inl (fun _ => 0)))] H := hP
  replace hD : va_D A [(h0, .inr (7, [.int 0, .int 0, .int (-1), .ref q_1, .int 0, .int 0, .ref q_3, .ref q_5, .ref q_7, .null, .null, .null, .null, .null, .int 0, .null, .int 0, .null, .int 0, .int 0, .null, .int 0, .null, .int 0, .int 0, .int 0, .int 0])), (q_1, .inl (cA_2, 256, .inl (fun _ => 0))), (q_3, .inl (cA_4, 8, .inl (fun _ => 0))), (q_5, .inl (cA_6, 8, .inl (fun _ => 0))), (q_7, .inl (cA_8, 8, .inl (fun _ => 0)))] := hD
  refine lv_aload_n hx hb d_O_init_42 rfl (lv_at hl 0 rfl) ?_
  refine lv_sipush (v := 512) hx hb d_O_init_43 (by decide +kernel) ?_
  refine va_newa (atype := .short) (ty := .short) (N' := 512) (a0 := (512, .inl (fun _ => 0))) hx hb (hw0 (.arrayClass .short) (List.mem_of_getElem? (i := 203) rfl)) rfl hK hP hD hS hA (fun _ => rfl) (by decide +kernel) (by decide +kernel) (by decide +kernel) (by decide +kernel) (by decide +kernel) d_O_init_46 (fun q_9 cA_10 H hK hP hD hS => ?_)
  replace hK : va_K (dC, dI) vwCl [(cA_2, .byte), (cA_4, .boolean), (cA_6, .int), (cA_8, .int), (cA_10, .short)] s := hK
  replace hP : va_P (dC, dI) vwCl [(h0, .inr (7, [.int 0, .int 0, .int (-1), .ref q_1, .int 0, .int 0, .ref q_3, .ref q_5, .ref q_7, .null, .null, .null, .null, .null, .int 0, .null, .int 0, .null, .int 0, .int 0, .null, .int 0, .null, .int 0, .int 0, .int 0, .int 0])), (q_1, .inl (cA_2, 256, .inl (fun _ => 0))), (q_3, .inl (cA_4, 8, .inl (fun _ => 0))), (q_5, .inl (cA_6, 8, .inl (fun _ => 0))), (q_7, .inl (cA_8, 8, .inl (fun _ => 0))), (q_9, .inl (cA_10, 512, .inl (fun _ => 0)))] H := hP
  replace hD : va_D A [(h0, .inr (7, [.int 0, .int 0, .int (-1), .ref q_1, .int 0, .int 0, .ref q_3, .ref q_5, .ref q_7, .null, .null, .null, .null, .null, .int 0, .null, .int 0, .null, .int 0, .int 0, .null, .int 0, .null, .int 0, .int 0, .int 0, .int 0])), (q_1, .inl (cA_2, 256, .inl (fun _ => 0))), (q_3, .inl (cA_4, 8, .inl (fun _ => 0))), (q_5, .inl (cA_6, 8, .inl (fun _ => 0))), (q_7, .inl (cA_8, 8, .inl (fun _ => 0))), (q_9, .inl (cA_10, 512, .inl (fun _ => 0)))] := hD
  refine W.widen (k := 5) (n := 792) (by decide +kernel) (by decide +kernel) ?_
  refine va_putF (D := (dC, dI)) (ci := 7) (v := .ref q_9) (ty := (.array .short)) (C := R_O) (T := F_O) (N := 27) hx hb hw0 in_O ft_O tk_O nk_O hown hK hP hD hS 0 rfl rfl 9 (by decide) (hw0 (.fieldLink R_O 28 "TextKeeperModel" "lengths" "[S") (List.mem_of_getElem? (i := 195) rfl)) (fun _ h9 => h9) rfl hin rfl (by decide +kernel) rfl rfl (Nat.le_of_ble_eq_true rfl) d_O_init_48 (fun H locs hP hD hS => ?_)
  replace hP : va_P (dC, dI) vwCl [(h0, .inr (7, [.int 0, .int 0, .int (-1), .ref q_1, .int 0, .int 0, .ref q_3, .ref q_5, .ref q_7, .ref q_9, .null, .null, .null, .null, .int 0, .null, .int 0, .null, .int 0, .int 0, .null, .int 0, .null, .int 0, .int 0, .int 0, .int 0])), (q_1, .inl (cA_2, 256, .inl (fun _ => 0))), (q_3, .inl (cA_4, 8, .inl (fun _ => 0))), (q_5, .inl (cA_6, 8, .inl (fun _ => 0))), (q_7, .inl (cA_8, 8, .inl (fun _ => 0))), (q_9, .inl (cA_10, 512, .inl (fun _ => 0)))] H := hP
  replace hD : va_D A [(h0, .inr (7, [.int 0, .int 0, .int (-1), .ref q_1, .int 0, .int 0, .ref q_3, .ref q_5, .ref q_7, .ref q_9, .null, .null, .null, .null, .int 0, .null, .int 0, .null, .int 0, .int 0, .null, .int 0, .null, .int 0, .int 0, .int 0, .int 0])), (q_1, .inl (cA_2, 256, .inl (fun _ => 0))), (q_3, .inl (cA_4, 8, .inl (fun _ => 0))), (q_5, .inl (cA_6, 8, .inl (fun _ => 0))), (q_7, .inl (cA_8, 8, .inl (fun _ => 0))), (q_9, .inl (cA_10, 512, .inl (fun _ => 0)))] := hD
  refine lv_aload_n hx hb d_O_init_51 rfl (lv_at hl 0 rfl) ?_
  refine lv_sipush (v := 512) hx hb d_O_init_52 (by decide +kernel) ?_
  refine va_newa (atype := .int) (ty := .int) (N' := 512) (a0 := (512, .inl (fun _ => 0))) hx hb (hw0 (.arrayClass .int) (List.mem_of_getElem? (i := 200) rfl)) rfl hK hP hD hS hA (fun _ => rfl) (by decide +kernel) (by decide +kernel) (by decide +kernel) (by decide +kernel) (by decide +kernel) d_O_init_55 (fun q_11 cA_12 H hK hP hD hS => ?_)
  replace hK : va_K (dC, dI) vwCl [(cA_2, .byte), (cA_4, .boolean), (cA_6, .int), (cA_8, .int), (cA_10, .short), (cA_12, .int)] s := hK
  replace hP : va_P (dC, dI) vwCl [(h0, .inr (7, [.int 0, .int 0, .int (-1), .ref q_1, .int 0, .int 0, .ref q_3, .ref q_5, .ref q_7, .ref q_9, .null, .null, .null, .null, .int 0, .null, .int 0, .null, .int 0, .int 0, .null, .int 0, .null, .int 0, .int 0, .int 0, .int 0])), (q_1, .inl (cA_2, 256, .inl (fun _ => 0))), (q_3, .inl (cA_4, 8, .inl (fun _ => 0))), (q_5, .inl (cA_6, 8, .inl (fun _ => 0))), (q_7, .inl (cA_8, 8, .inl (fun _ => 0))), (q_9, .inl (cA_10, 512, .inl (fun _ => 0))), (q_11, .inl (cA_12, 512, .inl (fun _ => 0)))] H := hP
  replace hD : va_D A [(h0, .inr (7, [.int 0, .int 0, .int (-1), .ref q_1, .int 0, .int 0, .ref q_3, .ref q_5, .ref q_7, .ref q_9, .null, .null, .null, .null, .int 0, .null, .int 0, .null, .int 0, .int 0, .null, .int 0, .null, .int 0, .int 0, .int 0, .int 0])), (q_1, .inl (cA_2, 256, .inl (fun _ => 0))), (q_3, .inl (cA_4, 8, .inl (fun _ => 0))), (q_5, .inl (cA_6, 8, .inl (fun _ => 0))), (q_7, .inl (cA_8, 8, .inl (fun _ => 0))), (q_9, .inl (cA_10, 512, .inl (fun _ => 0))), (q_11, .inl (cA_12, 512, .inl (fun _ => 0)))] := hD
  refine W.widen (k := 6) (n := 1304) (by decide +kernel) (by decide +kernel) ?_
  refine va_putF (D := (dC, dI)) (ci := 7) (v := .ref q_11) (ty := (.array .int)) (C := R_O) (T := F_O) (N := 27) hx hb hw0 in_O ft_O tk_O nk_O hown hK hP hD hS 0 rfl rfl 10 (by decide) (hw0 (.fieldLink R_O 32 "TextKeeperModel" "authors" "[I") (List.mem_of_getElem? (i := 204) rfl)) (fun _ h9 => h9) rfl hin rfl (by decide +kernel) rfl rfl (Nat.le_of_ble_eq_true rfl) d_O_init_57 (fun H locs hP hD hS => ?_)
  replace hP : va_P (dC, dI) vwCl [(h0, .inr (7, [.int 0, .int 0, .int (-1), .ref q_1, .int 0, .int 0, .ref q_3, .ref q_5, .ref q_7, .ref q_9, .ref q_11, .null, .null, .null, .int 0, .null, .int 0, .null, .int 0, .int 0, .null, .int 0, .null, .int 0, .int 0, .int 0, .int 0])), (q_1, .inl (cA_2, 256, .inl (fun _ => 0))), (q_3, .inl (cA_4, 8, .inl (fun _ => 0))), (q_5, .inl (cA_6, 8, .inl (fun _ => 0))), (q_7, .inl (cA_8, 8, .inl (fun _ => 0))), (q_9, .inl (cA_10, 512, .inl (fun _ => 0))), (q_11, .inl (cA_12, 512, .inl (fun _ => 0)))] H := hP
  replace hD : va_D A [(h0, .inr (7, [.int 0, .int 0, .int (-1), .ref q_1, .int 0, .int 0, .ref q_3, .ref q_5, .ref q_7, .ref q_9, .ref q_11, .null, .null, .null, .int 0, .null, .int 0, .null, .int 0, .int 0, .null, .int 0, .null, .int 0, .int 0, .int 0, .int 0])), (q_1, .inl (cA_2, 256, .inl (fun _ => 0))), (q_3, .inl (cA_4, 8, .inl (fun _ => 0))), (q_5, .inl (cA_6, 8, .inl (fun _ => 0))), (q_7, .inl (cA_8, 8, .inl (fun _ => 0))), (q_9, .inl (cA_10, 512, .inl (fun _ => 0))), (q_11, .inl (cA_12, 512, .inl (fun _ => 0)))] := hD
  refine lv_aload_n hx hb d_O_init_60 rfl (lv_at hl 0 rfl) ?_
  refine lv_sipush (v := 512) hx hb d_O_init_61 (by decide +kernel) ?_
  refine va_newa (atype := .int) (ty := .int) (N' := 512) (a0 := (512, .inl (fun _ => 0))) hx hb (hw0 (.arrayClass .int) (List.mem_of_getElem? (i := 200) rfl)) rfl hK hP hD hS hA (fun _ => rfl) (by decide +kernel) (by decide +kernel) (by decide +kernel) (by decide +kernel) (by decide +kernel) d_O_init_64 (fun q_13 cA_14 H hK hP hD hS => ?_)
  replace hK : va_K (dC, dI) vwCl [(cA_2, .byte), (cA_4, .boolean), (cA_6, .int), (cA_8, .int), (cA_10, .short), (cA_12, .int), (cA_14, .int)] s := hK
  replace hP : va_P (dC, dI) vwCl [(h0, .inr (7, [.int 0, .int 0, .int (-1), .ref q_1, .int 0, .int 0, .ref q_3, .ref q_5, .ref q_7, .ref q_9, .ref q_11, .null, .null, .null, .int 0, .null, .int 0, .null, .int 0, .int 0, .null, .int 0, .null, .int 0, .int 0, .int 0, .int 0])), (q_1, .inl (cA_2, 256, .inl (fun _ => 0))), (q_3, .inl (cA_4, 8, .inl (fun _ => 0))), (q_5, .inl (cA_6, 8, .inl (fun _ => 0))), (q_7, .inl (cA_8, 8, .inl (fun _ => 0))), (q_9, .inl (cA_10, 512, .inl (fun _ => 0))), (q_11, .inl (cA_12, 512, .inl (fun _ => 0))), (q_13, .inl (cA_14, 512, .inl (fun _ => 0)))] H := hP
  replace hD : va_D A [(h0, .inr (7, [.int 0, .int 0, .int (-1), .ref q_1, .int 0, .int 0, .ref q_3, .ref q_5, .ref q_7, .ref q_9, .ref q_11, .null, .null, .null, .int 0, .null, .int 0, .null, .int 0, .int 0, .null, .int 0, .null, .int 0, .int 0, .int 0, .int 0])), (q_1, .inl (cA_2, 256, .inl (fun _ => 0))), (q_3, .inl (cA_4, 8, .inl (fun _ => 0))), (q_5, .inl (cA_6, 8, .inl (fun _ => 0))), (q_7, .inl (cA_8, 8, .inl (fun _ => 0))), (q_9, .inl (cA_10, 512, .inl (fun _ => 0))), (q_11, .inl (cA_12, 512, .inl (fun _ => 0))), (q_13, .inl (cA_14, 512, .inl (fun _ => 0)))] := hD
  refine W.widen (k := 7) (n := 1816) (by decide +kernel) (by decide +kernel) ?_
  refine va_putF (D := (dC, dI)) (ci := 7) (v := .ref q_13) (ty := (.array .int)) (C := R_O) (T := F_O) (N := 27) hx hb hw0 in_O ft_O tk_O nk_O hown hK hP hD hS 0 rfl rfl 11 (by decide) (hw0 (.fieldLink R_O 35 "TextKeeperModel" "sums" "[I") (List.mem_of_getElem? (i := 205) rfl)) (fun _ h9 => h9) rfl hin rfl (by decide +kernel) rfl rfl (Nat.le_of_ble_eq_true rfl) d_O_init_66 (fun H locs hP hD hS => ?_)
  replace hP : va_P (dC, dI) vwCl [(h0, .inr (7, [.int 0, .int 0, .int (-1), .ref q_1, .int 0, .int 0, .ref q_3, .ref q_5, .ref q_7, .ref q_9, .ref q_11, .ref q_13, .null, .null, .int 0, .null, .int 0, .null, .int 0, .int 0, .null, .int 0, .null, .int 0, .int 0, .int 0, .int 0])), (q_1, .inl (cA_2, 256, .inl (fun _ => 0))), (q_3, .inl (cA_4, 8, .inl (fun _ => 0))), (q_5, .inl (cA_6, 8, .inl (fun _ => 0))), (q_7, .inl (cA_8, 8, .inl (fun _ => 0))), (q_9, .inl (cA_10, 512, .inl (fun _ => 0))), (q_11, .inl (cA_12, 512, .inl (fun _ => 0))), (q_13, .inl (cA_14, 512, .inl (fun _ => 0)))] H := hP
  replace hD : va_D A [(h0, .inr (7, [.int 0, .int 0, .int (-1), .ref q_1, .int 0, .int 0, .ref q_3, .ref q_5, .ref q_7, .ref q_9, .ref q_11, .ref q_13, .null, .null, .int 0, .null, .int 0, .null, .int 0, .int 0, .null, .int 0, .null, .int 0, .int 0, .int 0, .int 0])), (q_1, .inl (cA_2, 256, .inl (fun _ => 0))), (q_3, .inl (cA_4, 8, .inl (fun _ => 0))), (q_5, .inl (cA_6, 8, .inl (fun _ => 0))), (q_7, .inl (cA_8, 8, .inl (fun _ => 0))), (q_9, .inl (cA_10, 512, .inl (fun _ => 0))), (q_11, .inl (cA_12, 512, .inl (fun _ => 0))), (q_13, .inl (cA_14, 512, .inl (fun _ => 0)))] := hD
  refine lv_aload_n hx hb d_O_init_69 rfl (lv_at hl 0 rfl) ?_
  refine lv_sipush (v := 16384) hx hb d_O_init_70 (by decide +kernel) ?_
  refine va_newa (atype := .byte) (ty := .byte) (N' := 16384) (a0 := (16384, .inl (fun _ => 0))) hx hb (hw0 (.arrayClass .byte) (List.mem_of_getElem? (i := 60) rfl)) rfl hK hP hD hS hA (fun _ => rfl) (by decide +kernel) (by decide +kernel) (by decide +kernel) (by decide +kernel) (by decide +kernel) d_O_init_73 (fun q_15 cA_16 H hK hP hD hS => ?_)
  replace hK : va_K (dC, dI) vwCl [(cA_2, .byte), (cA_4, .boolean), (cA_6, .int), (cA_8, .int), (cA_10, .short), (cA_12, .int), (cA_14, .int), (cA_16, .byte)] s := hK
  replace hP : va_P (dC, dI) vwCl [(h0, .inr (7, [.int 0, .int 0, .int (-1), .ref q_1, .int 0, .int 0, .ref q_3, .ref q_5, .ref q_7, .ref q_9, .ref q_11, .ref q_13, .null, .null, .int 0, .null, .int 0, .null, .int 0, .int 0, .null, .int 0, .null, .int 0, .int 0, .int 0, .int 0])), (q_1, .inl (cA_2, 256, .inl (fun _ => 0))), (q_3, .inl (cA_4, 8, .inl (fun _ => 0))), (q_5, .inl (cA_6, 8, .inl (fun _ => 0))), (q_7, .inl (cA_8, 8, .inl (fun _ => 0))), (q_9, .inl (cA_10, 512, .inl (fun _ => 0))), (q_11, .inl (cA_12, 512, .inl (fun _ => 0))), (q_13, .inl (cA_14, 512, .inl (fun _ => 0))), (q_15, .inl (cA_16, 16384, .inl (fun _ => 0)))] H := hP
  replace hD : va_D A [(h0, .inr (7, [.int 0, .int 0, .int (-1), .ref q_1, .int 0, .int 0, .ref q_3, .ref q_5, .ref q_7, .ref q_9, .ref q_11, .ref q_13, .null, .null, .int 0, .null, .int 0, .null, .int 0, .int 0, .null, .int 0, .null, .int 0, .int 0, .int 0, .int 0])), (q_1, .inl (cA_2, 256, .inl (fun _ => 0))), (q_3, .inl (cA_4, 8, .inl (fun _ => 0))), (q_5, .inl (cA_6, 8, .inl (fun _ => 0))), (q_7, .inl (cA_8, 8, .inl (fun _ => 0))), (q_9, .inl (cA_10, 512, .inl (fun _ => 0))), (q_11, .inl (cA_12, 512, .inl (fun _ => 0))), (q_13, .inl (cA_14, 512, .inl (fun _ => 0))), (q_15, .inl (cA_16, 16384, .inl (fun _ => 0)))] := hD
  refine W.widen (k := 8) (n := 18200) (by decide +kernel) (by decide +kernel) ?_
  refine va_putF (D := (dC, dI)) (ci := 7) (v := .ref q_15) (ty := (.array .byte)) (C := R_O) (T := F_O) (N := 27) hx hb hw0 in_O ft_O tk_O nk_O hown hK hP hD hS 0 rfl rfl 12 (by decide) (hw0 (.fieldLink R_O 38 "TextKeeperModel" "row" "[B") (List.mem_of_getElem? (i := 206) rfl)) (fun _ h9 => h9) rfl hin rfl (by decide +kernel) rfl rfl (Nat.le_of_ble_eq_true rfl) d_O_init_75 (fun H locs hP hD hS => ?_)
  replace hP : va_P (dC, dI) vwCl [(h0, .inr (7, [.int 0, .int 0, .int (-1), .ref q_1, .int 0, .int 0, .ref q_3, .ref q_5, .ref q_7, .ref q_9, .ref q_11, .ref q_13, .ref q_15, .null, .int 0, .null, .int 0, .null, .int 0, .int 0, .null, .int 0, .null, .int 0, .int 0, .int 0, .int 0])), (q_1, .inl (cA_2, 256, .inl (fun _ => 0))), (q_3, .inl (cA_4, 8, .inl (fun _ => 0))), (q_5, .inl (cA_6, 8, .inl (fun _ => 0))), (q_7, .inl (cA_8, 8, .inl (fun _ => 0))), (q_9, .inl (cA_10, 512, .inl (fun _ => 0))), (q_11, .inl (cA_12, 512, .inl (fun _ => 0))), (q_13, .inl (cA_14, 512, .inl (fun _ => 0))), (q_15, .inl (cA_16, 16384, .inl (fun _ => 0)))] H := hP
  replace hD : va_D A [(h0, .inr (7, [.int 0, .int 0, .int (-1), .ref q_1, .int 0, .int 0, .ref q_3, .ref q_5, .ref q_7, .ref q_9, .ref q_11, .ref q_13, .ref q_15, .null, .int 0, .null, .int 0, .null, .int 0, .int 0, .null, .int 0, .null, .int 0, .int 0, .int 0, .int 0])), (q_1, .inl (cA_2, 256, .inl (fun _ => 0))), (q_3, .inl (cA_4, 8, .inl (fun _ => 0))), (q_5, .inl (cA_6, 8, .inl (fun _ => 0))), (q_7, .inl (cA_8, 8, .inl (fun _ => 0))), (q_9, .inl (cA_10, 512, .inl (fun _ => 0))), (q_11, .inl (cA_12, 512, .inl (fun _ => 0))), (q_13, .inl (cA_14, 512, .inl (fun _ => 0))), (q_15, .inl (cA_16, 16384, .inl (fun _ => 0)))] := hD
  refine lv_aload_n hx hb d_O_init_78 rfl (lv_at hl 0 rfl) ?_
  refine lv_sipush (v := 256) hx hb d_O_init_79 (by decide +kernel) ?_
  refine va_newa (atype := .byte) (ty := .byte) (N' := 256) (a0 := (256, .inl (fun _ => 0))) hx hb (hw0 (.arrayClass .byte) (List.mem_of_getElem? (i := 60) rfl)) rfl hK hP hD hS hA (fun _ => rfl) (by decide +kernel) (by decide +kernel) (by decide +kernel) (by decide +kernel) (by decide +kernel) d_O_init_82 (fun q_17 cA_18 H hK hP hD hS => ?_)
  replace hK : va_K (dC, dI) vwCl [(cA_2, .byte), (cA_4, .boolean), (cA_6, .int), (cA_8, .int), (cA_10, .short), (cA_12, .int), (cA_14, .int), (cA_16, .byte), (cA_18, .byte)] s := hK
  replace hP : va_P (dC, dI) vwCl [(h0, .inr (7, [.int 0, .int 0, .int (-1), .ref q_1, .int 0, .int 0, .ref q_3, .ref q_5, .ref q_7, .ref q_9, .ref q_11, .ref q_13, .ref q_15, .null, .int 0, .null, .int 0, .null, .int 0, .int 0, .null, .int 0, .null, .int 0, .int 0, .int 0, .int 0])), (q_1, .inl (cA_2, 256, .inl (fun _ => 0))), (q_3, .inl (cA_4, 8, .inl (fun _ => 0))), (q_5, .inl (cA_6, 8, .inl (fun _ => 0))), (q_7, .inl (cA_8, 8, .inl (fun _ => 0))), (q_9, .inl (cA_10, 512, .inl (fun _ => 0))), (q_11, .inl (cA_12, 512, .inl (fun _ => 0))), (q_13, .inl (cA_14, 512, .inl (fun _ => 0))), (q_15, .inl (cA_16, 16384, .inl (fun _ => 0))), (q_17, .inl (cA_18, 256, .inl (fun _ => 0)))] H := hP
  replace hD : va_D A [(h0, .inr (7, [.int 0, .int 0, .int (-1), .ref q_1, .int 0, .int 0, .ref q_3, .ref q_5, .ref q_7, .ref q_9, .ref q_11, .ref q_13, .ref q_15, .null, .int 0, .null, .int 0, .null, .int 0, .int 0, .null, .int 0, .null, .int 0, .int 0, .int 0, .int 0])), (q_1, .inl (cA_2, 256, .inl (fun _ => 0))), (q_3, .inl (cA_4, 8, .inl (fun _ => 0))), (q_5, .inl (cA_6, 8, .inl (fun _ => 0))), (q_7, .inl (cA_8, 8, .inl (fun _ => 0))), (q_9, .inl (cA_10, 512, .inl (fun _ => 0))), (q_11, .inl (cA_12, 512, .inl (fun _ => 0))), (q_13, .inl (cA_14, 512, .inl (fun _ => 0))), (q_15, .inl (cA_16, 16384, .inl (fun _ => 0))), (q_17, .inl (cA_18, 256, .inl (fun _ => 0)))] := hD
  refine W.widen (k := 9) (n := 18456) (by decide +kernel) (by decide +kernel) ?_
  refine va_put (D := (dC, dI)) (ci := 7) (v := .ref q_17) (ty := (.array .byte)) (C := R_O) (T := F_O) (N := 27) hx hb hw0 in_O ft_O tk_O nk_O hown hK hP hD hS 0 rfl rfl 13 (by decide) (hw0 (.fieldLink R_O 41 "TextKeeperModel" "made" "[B") (List.mem_of_getElem? (i := 207) rfl)) (fun _ h9 => h9) rfl (by decide +kernel) rfl rfl (Nat.le_of_ble_eq_true rfl) d_O_init_84 (fun H locs hP hD hS => ?_)
  replace hP : va_P (dC, dI) vwCl [(h0, .inr (7, [.int 0, .int 0, .int (-1), .ref q_1, .int 0, .int 0, .ref q_3, .ref q_5, .ref q_7, .ref q_9, .ref q_11, .ref q_13, .ref q_15, .ref q_17, .int 0, .null, .int 0, .null, .int 0, .int 0, .null, .int 0, .null, .int 0, .int 0, .int 0, .int 0])), (q_1, .inl (cA_2, 256, .inl (fun _ => 0))), (q_3, .inl (cA_4, 8, .inl (fun _ => 0))), (q_5, .inl (cA_6, 8, .inl (fun _ => 0))), (q_7, .inl (cA_8, 8, .inl (fun _ => 0))), (q_9, .inl (cA_10, 512, .inl (fun _ => 0))), (q_11, .inl (cA_12, 512, .inl (fun _ => 0))), (q_13, .inl (cA_14, 512, .inl (fun _ => 0))), (q_15, .inl (cA_16, 16384, .inl (fun _ => 0))), (q_17, .inl (cA_18, 256, .inl (fun _ => 0)))] H := hP
  replace hD : va_D A [(h0, .inr (7, [.int 0, .int 0, .int (-1), .ref q_1, .int 0, .int 0, .ref q_3, .ref q_5, .ref q_7, .ref q_9, .ref q_11, .ref q_13, .ref q_15, .ref q_17, .int 0, .null, .int 0, .null, .int 0, .int 0, .null, .int 0, .null, .int 0, .int 0, .int 0, .int 0])), (q_1, .inl (cA_2, 256, .inl (fun _ => 0))), (q_3, .inl (cA_4, 8, .inl (fun _ => 0))), (q_5, .inl (cA_6, 8, .inl (fun _ => 0))), (q_7, .inl (cA_8, 8, .inl (fun _ => 0))), (q_9, .inl (cA_10, 512, .inl (fun _ => 0))), (q_11, .inl (cA_12, 512, .inl (fun _ => 0))), (q_13, .inl (cA_14, 512, .inl (fun _ => 0))), (q_15, .inl (cA_16, 16384, .inl (fun _ => 0))), (q_17, .inl (cA_18, 256, .inl (fun _ => 0)))] := hD
  refine lv_aload_n hx hb d_O_init_87 rfl (lv_at hl 0 rfl) ?_
  refine lv_sipush (v := 256) hx hb d_O_init_88 (by decide +kernel) ?_
  refine va_newa (atype := .byte) (ty := .byte) (N' := 256) (a0 := (256, .inl (fun _ => 0))) hx hb (hw0 (.arrayClass .byte) (List.mem_of_getElem? (i := 60) rfl)) rfl hK hP hD hS hA (fun _ => rfl) (by decide +kernel) (by decide +kernel) (by decide +kernel) (by decide +kernel) (by decide +kernel) d_O_init_91 (fun q_19 cA_20 H hK hP hD hS => ?_)
  replace hK : va_K (dC, dI) vwCl [(cA_2, .byte), (cA_4, .boolean), (cA_6, .int), (cA_8, .int), (cA_10, .short), (cA_12, .int), (cA_14, .int), (cA_16, .byte), (cA_18, .byte), (cA_20, .byte)] s := hK
  replace hP : va_P (dC, dI) vwCl [(h0, .inr (7, [.int 0, .int 0, .int (-1), .ref q_1, .int 0, .int 0, .ref q_3, .ref q_5, .ref q_7, .ref q_9, .ref q_11, .ref q_13, .ref q_15, .ref q_17, .int 0, .null, .int 0, .null, .int 0, .int 0, .null, .int 0, .null, .int 0, .int 0, .int 0, .int 0])), (q_1, .inl (cA_2, 256, .inl (fun _ => 0))), (q_3, .inl (cA_4, 8, .inl (fun _ => 0))), (q_5, .inl (cA_6, 8, .inl (fun _ => 0))), (q_7, .inl (cA_8, 8, .inl (fun _ => 0))), (q_9, .inl (cA_10, 512, .inl (fun _ => 0))), (q_11, .inl (cA_12, 512, .inl (fun _ => 0))), (q_13, .inl (cA_14, 512, .inl (fun _ => 0))), (q_15, .inl (cA_16, 16384, .inl (fun _ => 0))), (q_17, .inl (cA_18, 256, .inl (fun _ => 0))), (q_19, .inl (cA_20, 256, .inl (fun _ => 0)))] H := hP
  replace hD : va_D A [(h0, .inr (7, [.int 0, .int 0, .int (-1), .ref q_1, .int 0, .int 0, .ref q_3, .ref q_5, .ref q_7, .ref q_9, .ref q_11, .ref q_13, .ref q_15, .ref q_17, .int 0, .null, .int 0, .null, .int 0, .int 0, .null, .int 0, .null, .int 0, .int 0, .int 0, .int 0])), (q_1, .inl (cA_2, 256, .inl (fun _ => 0))), (q_3, .inl (cA_4, 8, .inl (fun _ => 0))), (q_5, .inl (cA_6, 8, .inl (fun _ => 0))), (q_7, .inl (cA_8, 8, .inl (fun _ => 0))), (q_9, .inl (cA_10, 512, .inl (fun _ => 0))), (q_11, .inl (cA_12, 512, .inl (fun _ => 0))), (q_13, .inl (cA_14, 512, .inl (fun _ => 0))), (q_15, .inl (cA_16, 16384, .inl (fun _ => 0))), (q_17, .inl (cA_18, 256, .inl (fun _ => 0))), (q_19, .inl (cA_20, 256, .inl (fun _ => 0)))] := hD
  refine W.widen (k := 10) (n := 18712) (by decide +kernel) (by decide +kernel) ?_
  refine va_put (D := (dC, dI)) (ci := 7) (v := .ref q_19) (ty := (.array .byte)) (C := R_O) (T := F_O) (N := 27) hx hb hw0 in_O ft_O tk_O nk_O hown hK hP hD hS 0 rfl rfl 15 (by decide) (hw0 (.fieldLink R_O 44 "TextKeeperModel" "base" "[B") (List.mem_of_getElem? (i := 208) rfl)) (fun _ h9 => h9) rfl (by decide +kernel) rfl rfl (Nat.le_of_ble_eq_true rfl) d_O_init_93 (fun H locs hP hD hS => ?_)
  replace hP : va_P (dC, dI) vwCl [(h0, .inr (7, [.int 0, .int 0, .int (-1), .ref q_1, .int 0, .int 0, .ref q_3, .ref q_5, .ref q_7, .ref q_9, .ref q_11, .ref q_13, .ref q_15, .ref q_17, .int 0, .ref q_19, .int 0, .null, .int 0, .int 0, .null, .int 0, .null, .int 0, .int 0, .int 0, .int 0])), (q_1, .inl (cA_2, 256, .inl (fun _ => 0))), (q_3, .inl (cA_4, 8, .inl (fun _ => 0))), (q_5, .inl (cA_6, 8, .inl (fun _ => 0))), (q_7, .inl (cA_8, 8, .inl (fun _ => 0))), (q_9, .inl (cA_10, 512, .inl (fun _ => 0))), (q_11, .inl (cA_12, 512, .inl (fun _ => 0))), (q_13, .inl (cA_14, 512, .inl (fun _ => 0))), (q_15, .inl (cA_16, 16384, .inl (fun _ => 0))), (q_17, .inl (cA_18, 256, .inl (fun _ => 0))), (q_19, .inl (cA_20, 256, .inl (fun _ => 0)))] H := hP
  replace hD : va_D A [(h0, .inr (7, [.int 0, .int 0, .int (-1), .ref q_1, .int 0, .int 0, .ref q_3, .ref q_5, .ref q_7, .ref q_9, .ref q_11, .ref q_13, .ref q_15, .ref q_17, .int 0, .ref q_19, .int 0, .null, .int 0, .int 0, .null, .int 0, .null, .int 0, .int 0, .int 0, .int 0])), (q_1, .inl (cA_2, 256, .inl (fun _ => 0))), (q_3, .inl (cA_4, 8, .inl (fun _ => 0))), (q_5, .inl (cA_6, 8, .inl (fun _ => 0))), (q_7, .inl (cA_8, 8, .inl (fun _ => 0))), (q_9, .inl (cA_10, 512, .inl (fun _ => 0))), (q_11, .inl (cA_12, 512, .inl (fun _ => 0))), (q_13, .inl (cA_14, 512, .inl (fun _ => 0))), (q_15, .inl (cA_16, 16384, .inl (fun _ => 0))), (q_17, .inl (cA_18, 256, .inl (fun _ => 0))), (q_19, .inl (cA_20, 256, .inl (fun _ => 0)))] := hD
  refine lv_aload_n hx hb d_O_init_96 rfl (lv_at hl 0 rfl) ?_
  refine lv_sipush (v := 256) hx hb d_O_init_97 (by decide +kernel) ?_
  refine va_newa (atype := .byte) (ty := .byte) (N' := 256) (a0 := (256, .inl (fun _ => 0))) hx hb (hw0 (.arrayClass .byte) (List.mem_of_getElem? (i := 60) rfl)) rfl hK hP hD hS hA (fun _ => rfl) (by decide +kernel) (by decide +kernel) (by decide +kernel) (by decide +kernel) (by decide +kernel) d_O_init_100 (fun q_21 cA_22 H hK hP hD hS => ?_)
  replace hK : va_K (dC, dI) vwCl [(cA_2, .byte), (cA_4, .boolean), (cA_6, .int), (cA_8, .int), (cA_10, .short), (cA_12, .int), (cA_14, .int), (cA_16, .byte), (cA_18, .byte), (cA_20, .byte), (cA_22, .byte)] s := hK
  replace hP : va_P (dC, dI) vwCl [(h0, .inr (7, [.int 0, .int 0, .int (-1), .ref q_1, .int 0, .int 0, .ref q_3, .ref q_5, .ref q_7, .ref q_9, .ref q_11, .ref q_13, .ref q_15, .ref q_17, .int 0, .ref q_19, .int 0, .null, .int 0, .int 0, .null, .int 0, .null, .int 0, .int 0, .int 0, .int 0])), (q_1, .inl (cA_2, 256, .inl (fun _ => 0))), (q_3, .inl (cA_4, 8, .inl (fun _ => 0))), (q_5, .inl (cA_6, 8, .inl (fun _ => 0))), (q_7, .inl (cA_8, 8, .inl (fun _ => 0))), (q_9, .inl (cA_10, 512, .inl (fun _ => 0))), (q_11, .inl (cA_12, 512, .inl (fun _ => 0))), (q_13, .inl (cA_14, 512, .inl (fun _ => 0))), (q_15, .inl (cA_16, 16384, .inl (fun _ => 0))), (q_17, .inl (cA_18, 256, .inl (fun _ => 0))), (q_19, .inl (cA_20, 256, .inl (fun _ => 0))), (q_21, .inl (cA_22, 256, .inl (fun _ => 0)))] H := hP
  replace hD : va_D A [(h0, .inr (7, [.int 0, .int 0, .int (-1), .ref q_1, .int 0, .int 0, .ref q_3, .ref q_5, .ref q_7, .ref q_9, .ref q_11, .ref q_13, .ref q_15, .ref q_17, .int 0, .ref q_19, .int 0, .null, .int 0, .int 0, .null, .int 0, .null, .int 0, .int 0, .int 0, .int 0])), (q_1, .inl (cA_2, 256, .inl (fun _ => 0))), (q_3, .inl (cA_4, 8, .inl (fun _ => 0))), (q_5, .inl (cA_6, 8, .inl (fun _ => 0))), (q_7, .inl (cA_8, 8, .inl (fun _ => 0))), (q_9, .inl (cA_10, 512, .inl (fun _ => 0))), (q_11, .inl (cA_12, 512, .inl (fun _ => 0))), (q_13, .inl (cA_14, 512, .inl (fun _ => 0))), (q_15, .inl (cA_16, 16384, .inl (fun _ => 0))), (q_17, .inl (cA_18, 256, .inl (fun _ => 0))), (q_19, .inl (cA_20, 256, .inl (fun _ => 0))), (q_21, .inl (cA_22, 256, .inl (fun _ => 0)))] := hD
  refine W.widen (k := 11) (n := 18968) (by decide +kernel) (by decide +kernel) ?_
  refine va_putF (D := (dC, dI)) (ci := 7) (v := .ref q_21) (ty := (.array .byte)) (C := R_O) (T := F_O) (N := 27) hx hb hw0 in_O ft_O tk_O nk_O hown hK hP hD hS 0 rfl rfl 17 (by decide) (hw0 (.fieldLink R_O 47 "TextKeeperModel" "text" "[B") (List.mem_of_getElem? (i := 209) rfl)) (fun _ h9 => h9) rfl hin rfl (by decide +kernel) rfl rfl (Nat.le_of_ble_eq_true rfl) d_O_init_102 (fun H locs hP hD hS => ?_)
  replace hP : va_P (dC, dI) vwCl [(h0, .inr (7, [.int 0, .int 0, .int (-1), .ref q_1, .int 0, .int 0, .ref q_3, .ref q_5, .ref q_7, .ref q_9, .ref q_11, .ref q_13, .ref q_15, .ref q_17, .int 0, .ref q_19, .int 0, .ref q_21, .int 0, .int 0, .null, .int 0, .null, .int 0, .int 0, .int 0, .int 0])), (q_1, .inl (cA_2, 256, .inl (fun _ => 0))), (q_3, .inl (cA_4, 8, .inl (fun _ => 0))), (q_5, .inl (cA_6, 8, .inl (fun _ => 0))), (q_7, .inl (cA_8, 8, .inl (fun _ => 0))), (q_9, .inl (cA_10, 512, .inl (fun _ => 0))), (q_11, .inl (cA_12, 512, .inl (fun _ => 0))), (q_13, .inl (cA_14, 512, .inl (fun _ => 0))), (q_15, .inl (cA_16, 16384, .inl (fun _ => 0))), (q_17, .inl (cA_18, 256, .inl (fun _ => 0))), (q_19, .inl (cA_20, 256, .inl (fun _ => 0))), (q_21, .inl (cA_22, 256, .inl (fun _ => 0)))] H := hP
  replace hD : va_D A [(h0, .inr (7, [.int 0, .int 0, .int (-1), .ref q_1, .int 0, .int 0, .ref q_3, .ref q_5, .ref q_7, .ref q_9, .ref q_11, .ref q_13, .ref q_15, .ref q_17, .int 0, .ref q_19, .int 0, .ref q_21, .int 0, .int 0, .null, .int 0, .null, .int 0, .int 0, .int 0, .int 0])), (q_1, .inl (cA_2, 256, .inl (fun _ => 0))), (q_3, .inl (cA_4, 8, .inl (fun _ => 0))), (q_5, .inl (cA_6, 8, .inl (fun _ => 0))), (q_7, .inl (cA_8, 8, .inl (fun _ => 0))), (q_9, .inl (cA_10, 512, .inl (fun _ => 0))), (q_11, .inl (cA_12, 512, .inl (fun _ => 0))), (q_13, .inl (cA_14, 512, .inl (fun _ => 0))), (q_15, .inl (cA_16, 16384, .inl (fun _ => 0))), (q_17, .inl (cA_18, 256, .inl (fun _ => 0))), (q_19, .inl (cA_20, 256, .inl (fun _ => 0))), (q_21, .inl (cA_22, 256, .inl (fun _ => 0)))] := hD
  refine lv_aload_n hx hb d_O_init_105 rfl (lv_at hl 0 rfl) ?_
  refine lv_iconst (v := (-1)) hx hb d_O_init_106 (by decide) ?_
  refine va_put (D := (dC, dI)) (ci := 7) (v := .int (-1)) (ty := .int) (C := R_O) (T := F_O) (N := 27) hx hb hw0 in_O ft_O tk_O nk_O hown hK hP hD hS 0 rfl rfl 18 (by decide) (hw0 (.fieldLink R_O 50 "TextKeeperModel" "textSize" "I") (List.mem_of_getElem? (i := 192) rfl)) (fun _ h9 => h9) rfl (by decide +kernel) rfl rfl (Nat.le_of_ble_eq_true rfl) d_O_init_107 (fun H locs hP hD hS => ?_)
  replace hP : va_P (dC, dI) vwCl [(h0, .inr (7, [.int 0, .int 0, .int (-1), .ref q_1, .int 0, .int 0, .ref q_3, .ref q_5, .ref q_7, .ref q_9, .ref q_11, .ref q_13, .ref q_15, .ref q_17, .int 0, .ref q_19, .int 0, .ref q_21, .int (-1), .int 0, .null, .int 0, .null, .int 0, .int 0, .int 0, .int 0])), (q_1, .inl (cA_2, 256, .inl (fun _ => 0))), (q_3, .inl (cA_4, 8, .inl (fun _ => 0))), (q_5, .inl (cA_6, 8, .inl (fun _ => 0))), (q_7, .inl (cA_8, 8, .inl (fun _ => 0))), (q_9, .inl (cA_10, 512, .inl (fun _ => 0))), (q_11, .inl (cA_12, 512, .inl (fun _ => 0))), (q_13, .inl (cA_14, 512, .inl (fun _ => 0))), (q_15, .inl (cA_16, 16384, .inl (fun _ => 0))), (q_17, .inl (cA_18, 256, .inl (fun _ => 0))), (q_19, .inl (cA_20, 256, .inl (fun _ => 0))), (q_21, .inl (cA_22, 256, .inl (fun _ => 0)))] H := hP
  replace hD : va_D A [(h0, .inr (7, [.int 0, .int 0, .int (-1), .ref q_1, .int 0, .int 0, .ref q_3, .ref q_5, .ref q_7, .ref q_9, .ref q_11, .ref q_13, .ref q_15, .ref q_17, .int 0, .ref q_19, .int 0, .ref q_21, .int (-1), .int 0, .null, .int 0, .null, .int 0, .int 0, .int 0, .int 0])), (q_1, .inl (cA_2, 256, .inl (fun _ => 0))), (q_3, .inl (cA_4, 8, .inl (fun _ => 0))), (q_5, .inl (cA_6, 8, .inl (fun _ => 0))), (q_7, .inl (cA_8, 8, .inl (fun _ => 0))), (q_9, .inl (cA_10, 512, .inl (fun _ => 0))), (q_11, .inl (cA_12, 512, .inl (fun _ => 0))), (q_13, .inl (cA_14, 512, .inl (fun _ => 0))), (q_15, .inl (cA_16, 16384, .inl (fun _ => 0))), (q_17, .inl (cA_18, 256, .inl (fun _ => 0))), (q_19, .inl (cA_20, 256, .inl (fun _ => 0))), (q_21, .inl (cA_22, 256, .inl (fun _ => 0)))] := hD
  refine lv_aload_n hx hb d_O_init_110 rfl (lv_at hl 0 rfl) ?_
  refine lv_iconst (v := (-1)) hx hb d_O_init_111 (by decide) ?_
  refine va_put (D := (dC, dI)) (ci := 7) (v := .int (-1)) (ty := .int) (C := R_O) (T := F_O) (N := 27) hx hb hw0 in_O ft_O tk_O nk_O hown hK hP hD hS 0 rfl rfl 19 (by decide) (hw0 (.fieldLink R_O 53 "TextKeeperModel" "textSteps" "I") (List.mem_of_getElem? (i := 193) rfl)) (fun _ h9 => h9) rfl (by decide +kernel) rfl rfl (Nat.le_of_ble_eq_true rfl) d_O_init_112 (fun H locs hP hD hS => ?_)
  replace hP : va_P (dC, dI) vwCl [(h0, .inr (7, [.int 0, .int 0, .int (-1), .ref q_1, .int 0, .int 0, .ref q_3, .ref q_5, .ref q_7, .ref q_9, .ref q_11, .ref q_13, .ref q_15, .ref q_17, .int 0, .ref q_19, .int 0, .ref q_21, .int (-1), .int (-1), .null, .int 0, .null, .int 0, .int 0, .int 0, .int 0])), (q_1, .inl (cA_2, 256, .inl (fun _ => 0))), (q_3, .inl (cA_4, 8, .inl (fun _ => 0))), (q_5, .inl (cA_6, 8, .inl (fun _ => 0))), (q_7, .inl (cA_8, 8, .inl (fun _ => 0))), (q_9, .inl (cA_10, 512, .inl (fun _ => 0))), (q_11, .inl (cA_12, 512, .inl (fun _ => 0))), (q_13, .inl (cA_14, 512, .inl (fun _ => 0))), (q_15, .inl (cA_16, 16384, .inl (fun _ => 0))), (q_17, .inl (cA_18, 256, .inl (fun _ => 0))), (q_19, .inl (cA_20, 256, .inl (fun _ => 0))), (q_21, .inl (cA_22, 256, .inl (fun _ => 0)))] H := hP
  replace hD : va_D A [(h0, .inr (7, [.int 0, .int 0, .int (-1), .ref q_1, .int 0, .int 0, .ref q_3, .ref q_5, .ref q_7, .ref q_9, .ref q_11, .ref q_13, .ref q_15, .ref q_17, .int 0, .ref q_19, .int 0, .ref q_21, .int (-1), .int (-1), .null, .int 0, .null, .int 0, .int 0, .int 0, .int 0])), (q_1, .inl (cA_2, 256, .inl (fun _ => 0))), (q_3, .inl (cA_4, 8, .inl (fun _ => 0))), (q_5, .inl (cA_6, 8, .inl (fun _ => 0))), (q_7, .inl (cA_8, 8, .inl (fun _ => 0))), (q_9, .inl (cA_10, 512, .inl (fun _ => 0))), (q_11, .inl (cA_12, 512, .inl (fun _ => 0))), (q_13, .inl (cA_14, 512, .inl (fun _ => 0))), (q_15, .inl (cA_16, 16384, .inl (fun _ => 0))), (q_17, .inl (cA_18, 256, .inl (fun _ => 0))), (q_19, .inl (cA_20, 256, .inl (fun _ => 0))), (q_21, .inl (cA_22, 256, .inl (fun _ => 0)))] := hD
  refine lv_aload_n hx hb d_O_init_115 rfl (lv_at hl 0 rfl) ?_
  refine lv_sipush (v := 256) hx hb d_O_init_116 (by decide +kernel) ?_
  refine va_newa (atype := .byte) (ty := .byte) (N' := 256) (a0 := (256, .inl (fun _ => 0))) hx hb (hw0 (.arrayClass .byte) (List.mem_of_getElem? (i := 60) rfl)) rfl hK hP hD hS hA (fun _ => rfl) (by decide +kernel) (by decide +kernel) (by decide +kernel) (by decide +kernel) (by decide +kernel) d_O_init_119 (fun q_23 cA_24 H hK hP hD hS => ?_)
  replace hK : va_K (dC, dI) vwCl [(cA_2, .byte), (cA_4, .boolean), (cA_6, .int), (cA_8, .int), (cA_10, .short), (cA_12, .int), (cA_14, .int), (cA_16, .byte), (cA_18, .byte), (cA_20, .byte), (cA_22, .byte), (cA_24, .byte)] s := hK
  replace hP : va_P (dC, dI) vwCl [(h0, .inr (7, [.int 0, .int 0, .int (-1), .ref q_1, .int 0, .int 0, .ref q_3, .ref q_5, .ref q_7, .ref q_9, .ref q_11, .ref q_13, .ref q_15, .ref q_17, .int 0, .ref q_19, .int 0, .ref q_21, .int (-1), .int (-1), .null, .int 0, .null, .int 0, .int 0, .int 0, .int 0])), (q_1, .inl (cA_2, 256, .inl (fun _ => 0))), (q_3, .inl (cA_4, 8, .inl (fun _ => 0))), (q_5, .inl (cA_6, 8, .inl (fun _ => 0))), (q_7, .inl (cA_8, 8, .inl (fun _ => 0))), (q_9, .inl (cA_10, 512, .inl (fun _ => 0))), (q_11, .inl (cA_12, 512, .inl (fun _ => 0))), (q_13, .inl (cA_14, 512, .inl (fun _ => 0))), (q_15, .inl (cA_16, 16384, .inl (fun _ => 0))), (q_17, .inl (cA_18, 256, .inl (fun _ => 0))), (q_19, .inl (cA_20, 256, .inl (fun _ => 0))), (q_21, .inl (cA_22, 256, .inl (fun _ => 0))), (q_23, .inl (cA_24, 256, .inl (fun _ => 0)))] H := hP
  replace hD : va_D A [(h0, .inr (7, [.int 0, .int 0, .int (-1), .ref q_1, .int 0, .int 0, .ref q_3, .ref q_5, .ref q_7, .ref q_9, .ref q_11, .ref q_13, .ref q_15, .ref q_17, .int 0, .ref q_19, .int 0, .ref q_21, .int (-1), .int (-1), .null, .int 0, .null, .int 0, .int 0, .int 0, .int 0])), (q_1, .inl (cA_2, 256, .inl (fun _ => 0))), (q_3, .inl (cA_4, 8, .inl (fun _ => 0))), (q_5, .inl (cA_6, 8, .inl (fun _ => 0))), (q_7, .inl (cA_8, 8, .inl (fun _ => 0))), (q_9, .inl (cA_10, 512, .inl (fun _ => 0))), (q_11, .inl (cA_12, 512, .inl (fun _ => 0))), (q_13, .inl (cA_14, 512, .inl (fun _ => 0))), (q_15, .inl (cA_16, 16384, .inl (fun _ => 0))), (q_17, .inl (cA_18, 256, .inl (fun _ => 0))), (q_19, .inl (cA_20, 256, .inl (fun _ => 0))), (q_21, .inl (cA_22, 256, .inl (fun _ => 0))), (q_23, .inl (cA_24, 256, .inl (fun _ => 0)))] := hD
  refine W.widen (k := 12) (n := 19224) (by decide +kernel) (by decide +kernel) ?_
  refine va_putF (D := (dC, dI)) (ci := 7) (v := .ref q_23) (ty := (.array .byte)) (C := R_O) (T := F_O) (N := 27) hx hb hw0 in_O ft_O tk_O nk_O hown hK hP hD hS 0 rfl rfl 20 (by decide) (hw0 (.fieldLink R_O 56 "TextKeeperModel" "other" "[B") (List.mem_of_getElem? (i := 210) rfl)) (fun _ h9 => h9) rfl hin rfl (by decide +kernel) rfl rfl (Nat.le_of_ble_eq_true rfl) d_O_init_121 (fun H locs hP hD hS => ?_)
  replace hP : va_P (dC, dI) vwCl [(h0, .inr (7, [.int 0, .int 0, .int (-1), .ref q_1, .int 0, .int 0, .ref q_3, .ref q_5, .ref q_7, .ref q_9, .ref q_11, .ref q_13, .ref q_15, .ref q_17, .int 0, .ref q_19, .int 0, .ref q_21, .int (-1), .int (-1), .ref q_23, .int 0, .null, .int 0, .int 0, .int 0, .int 0])), (q_1, .inl (cA_2, 256, .inl (fun _ => 0))), (q_3, .inl (cA_4, 8, .inl (fun _ => 0))), (q_5, .inl (cA_6, 8, .inl (fun _ => 0))), (q_7, .inl (cA_8, 8, .inl (fun _ => 0))), (q_9, .inl (cA_10, 512, .inl (fun _ => 0))), (q_11, .inl (cA_12, 512, .inl (fun _ => 0))), (q_13, .inl (cA_14, 512, .inl (fun _ => 0))), (q_15, .inl (cA_16, 16384, .inl (fun _ => 0))), (q_17, .inl (cA_18, 256, .inl (fun _ => 0))), (q_19, .inl (cA_20, 256, .inl (fun _ => 0))), (q_21, .inl (cA_22, 256, .inl (fun _ => 0))), (q_23, .inl (cA_24, 256, .inl (fun _ => 0)))] H := hP
  replace hD : va_D A [(h0, .inr (7, [.int 0, .int 0, .int (-1), .ref q_1, .int 0, .int 0, .ref q_3, .ref q_5, .ref q_7, .ref q_9, .ref q_11, .ref q_13, .ref q_15, .ref q_17, .int 0, .ref q_19, .int 0, .ref q_21, .int (-1), .int (-1), .ref q_23, .int 0, .null, .int 0, .int 0, .int 0, .int 0])), (q_1, .inl (cA_2, 256, .inl (fun _ => 0))), (q_3, .inl (cA_4, 8, .inl (fun _ => 0))), (q_5, .inl (cA_6, 8, .inl (fun _ => 0))), (q_7, .inl (cA_8, 8, .inl (fun _ => 0))), (q_9, .inl (cA_10, 512, .inl (fun _ => 0))), (q_11, .inl (cA_12, 512, .inl (fun _ => 0))), (q_13, .inl (cA_14, 512, .inl (fun _ => 0))), (q_15, .inl (cA_16, 16384, .inl (fun _ => 0))), (q_17, .inl (cA_18, 256, .inl (fun _ => 0))), (q_19, .inl (cA_20, 256, .inl (fun _ => 0))), (q_21, .inl (cA_22, 256, .inl (fun _ => 0))), (q_23, .inl (cA_24, 256, .inl (fun _ => 0)))] := hD
  refine lv_aload_n hx hb d_O_init_124 rfl (lv_at hl 0 rfl) ?_
  refine lv_sipush (v := 600) hx hb d_O_init_125 (by decide +kernel) ?_
  refine va_newa (atype := .byte) (ty := .byte) (N' := 600) (a0 := (600, .inl (fun _ => 0))) hx hb (hw0 (.arrayClass .byte) (List.mem_of_getElem? (i := 60) rfl)) rfl hK hP hD hS hA (fun _ => rfl) (by decide +kernel) (by decide +kernel) (by decide +kernel) (by decide +kernel) (by decide +kernel) d_O_init_128 (fun q_25 cA_26 H hK hP hD hS => ?_)
  replace hK : va_K (dC, dI) vwCl [(cA_2, .byte), (cA_4, .boolean), (cA_6, .int), (cA_8, .int), (cA_10, .short), (cA_12, .int), (cA_14, .int), (cA_16, .byte), (cA_18, .byte), (cA_20, .byte), (cA_22, .byte), (cA_24, .byte), (cA_26, .byte)] s := hK
  replace hP : va_P (dC, dI) vwCl [(h0, .inr (7, [.int 0, .int 0, .int (-1), .ref q_1, .int 0, .int 0, .ref q_3, .ref q_5, .ref q_7, .ref q_9, .ref q_11, .ref q_13, .ref q_15, .ref q_17, .int 0, .ref q_19, .int 0, .ref q_21, .int (-1), .int (-1), .ref q_23, .int 0, .null, .int 0, .int 0, .int 0, .int 0])), (q_1, .inl (cA_2, 256, .inl (fun _ => 0))), (q_3, .inl (cA_4, 8, .inl (fun _ => 0))), (q_5, .inl (cA_6, 8, .inl (fun _ => 0))), (q_7, .inl (cA_8, 8, .inl (fun _ => 0))), (q_9, .inl (cA_10, 512, .inl (fun _ => 0))), (q_11, .inl (cA_12, 512, .inl (fun _ => 0))), (q_13, .inl (cA_14, 512, .inl (fun _ => 0))), (q_15, .inl (cA_16, 16384, .inl (fun _ => 0))), (q_17, .inl (cA_18, 256, .inl (fun _ => 0))), (q_19, .inl (cA_20, 256, .inl (fun _ => 0))), (q_21, .inl (cA_22, 256, .inl (fun _ => 0))), (q_23, .inl (cA_24, 256, .inl (fun _ => 0))), (q_25, .inl (cA_26, 600, .inl (fun _ => 0)))] H := hP
  replace hD : va_D A [(h0, .inr (7, [.int 0, .int 0, .int (-1), .ref q_1, .int 0, .int 0, .ref q_3, .ref q_5, .ref q_7, .ref q_9, .ref q_11, .ref q_13, .ref q_15, .ref q_17, .int 0, .ref q_19, .int 0, .ref q_21, .int (-1), .int (-1), .ref q_23, .int 0, .null, .int 0, .int 0, .int 0, .int 0])), (q_1, .inl (cA_2, 256, .inl (fun _ => 0))), (q_3, .inl (cA_4, 8, .inl (fun _ => 0))), (q_5, .inl (cA_6, 8, .inl (fun _ => 0))), (q_7, .inl (cA_8, 8, .inl (fun _ => 0))), (q_9, .inl (cA_10, 512, .inl (fun _ => 0))), (q_11, .inl (cA_12, 512, .inl (fun _ => 0))), (q_13, .inl (cA_14, 512, .inl (fun _ => 0))), (q_15, .inl (cA_16, 16384, .inl (fun _ => 0))), (q_17, .inl (cA_18, 256, .inl (fun _ => 0))), (q_19, .inl (cA_20, 256, .inl (fun _ => 0))), (q_21, .inl (cA_22, 256, .inl (fun _ => 0))), (q_23, .inl (cA_24, 256, .inl (fun _ => 0))), (q_25, .inl (cA_26, 600, .inl (fun _ => 0)))] := hD
  refine W.widen (k := 13) (n := 19824) (by decide +kernel) (by decide +kernel) ?_
  refine va_putF (D := (dC, dI)) (ci := 7) (v := .ref q_25) (ty := (.array .byte)) (C := R_O) (T := F_O) (N := 27) hx hb hw0 in_O ft_O tk_O nk_O hown hK hP hD hS 0 rfl rfl 22 (by decide) (hw0 (.fieldLink R_O 59 "TextKeeperModel" "piece" "[B") (List.mem_of_getElem? (i := 211) rfl)) (fun _ h9 => h9) rfl hin rfl (by decide +kernel) rfl rfl (Nat.le_of_ble_eq_true rfl) d_O_init_130 (fun H locs hP hD hS => ?_)
  replace hP : va_P (dC, dI) vwCl [(h0, .inr (7, [.int 0, .int 0, .int (-1), .ref q_1, .int 0, .int 0, .ref q_3, .ref q_5, .ref q_7, .ref q_9, .ref q_11, .ref q_13, .ref q_15, .ref q_17, .int 0, .ref q_19, .int 0, .ref q_21, .int (-1), .int (-1), .ref q_23, .int 0, .ref q_25, .int 0, .int 0, .int 0, .int 0])), (q_1, .inl (cA_2, 256, .inl (fun _ => 0))), (q_3, .inl (cA_4, 8, .inl (fun _ => 0))), (q_5, .inl (cA_6, 8, .inl (fun _ => 0))), (q_7, .inl (cA_8, 8, .inl (fun _ => 0))), (q_9, .inl (cA_10, 512, .inl (fun _ => 0))), (q_11, .inl (cA_12, 512, .inl (fun _ => 0))), (q_13, .inl (cA_14, 512, .inl (fun _ => 0))), (q_15, .inl (cA_16, 16384, .inl (fun _ => 0))), (q_17, .inl (cA_18, 256, .inl (fun _ => 0))), (q_19, .inl (cA_20, 256, .inl (fun _ => 0))), (q_21, .inl (cA_22, 256, .inl (fun _ => 0))), (q_23, .inl (cA_24, 256, .inl (fun _ => 0))), (q_25, .inl (cA_26, 600, .inl (fun _ => 0)))] H := hP
  replace hD : va_D A [(h0, .inr (7, [.int 0, .int 0, .int (-1), .ref q_1, .int 0, .int 0, .ref q_3, .ref q_5, .ref q_7, .ref q_9, .ref q_11, .ref q_13, .ref q_15, .ref q_17, .int 0, .ref q_19, .int 0, .ref q_21, .int (-1), .int (-1), .ref q_23, .int 0, .ref q_25, .int 0, .int 0, .int 0, .int 0])), (q_1, .inl (cA_2, 256, .inl (fun _ => 0))), (q_3, .inl (cA_4, 8, .inl (fun _ => 0))), (q_5, .inl (cA_6, 8, .inl (fun _ => 0))), (q_7, .inl (cA_8, 8, .inl (fun _ => 0))), (q_9, .inl (cA_10, 512, .inl (fun _ => 0))), (q_11, .inl (cA_12, 512, .inl (fun _ => 0))), (q_13, .inl (cA_14, 512, .inl (fun _ => 0))), (q_15, .inl (cA_16, 16384, .inl (fun _ => 0))), (q_17, .inl (cA_18, 256, .inl (fun _ => 0))), (q_19, .inl (cA_20, 256, .inl (fun _ => 0))), (q_21, .inl (cA_22, 256, .inl (fun _ => 0))), (q_23, .inl (cA_24, 256, .inl (fun _ => 0))), (q_25, .inl (cA_26, 600, .inl (fun _ => 0)))] := hD
  refine lv_iconst (v := 0) hx hb d_O_init_133 (by decide) ?_
  refine lv_istore_n (lv' := [(1, .int 0), (0, .ref h0)]) hx hb d_O_init_134 rfl hl (by decide) rfl (fun ls hl => ?_)
  have hP8 := hP.sub (ws' := [(h0, .inr (7, [.int 0, .int 0, .int (-1), .ref q_1, .int 0, .int 0, .ref q_3, .ref q_5, .ref q_7, .ref q_9, .ref q_11, .ref q_13, .ref q_15, .ref q_17, .int 0, .ref q_19, .int 0, .ref q_21, .int (-1), .int (-1), .ref q_23, .int 0, .ref q_25, .int 0, .int 0, .int 0, .int 0])), (q_1, .inl (cA_2, 256, .inl (fun _ => 0))), (q_9, .inl (cA_10, 512, .inl (fun _ => 0)))]) [0, 1, 5] rfl
  have hD8 := hD.sub (ws' := [(h0, .inr (7, [.int 0, .int 0, .int (-1), .ref q_1, .int 0, .int 0, .ref q_3, .ref q_5, .ref q_7, .ref q_9, .ref q_11, .ref q_13, .ref q_15, .ref q_17, .int 0, .ref q_19, .int 0, .ref q_21, .int (-1), .int (-1), .ref q_23, .int 0, .ref q_25, .int 0, .int 0, .int 0, .int 0])), (q_1, .inl (cA_2, 256, .inl (fun _ => 0))), (q_9, .inl (cA_10, 512, .inl (fun _ => 0)))]) [0, 1, 5] (by decide) rfl
  have hK8 := hK.sub (tys' := [(cA_2, .byte), (cA_10, .short)]) [0, 4] rfl
  refine lp_init h0 0 0 (-1) (.ref q_1) 0 0 (.ref q_3) (.ref q_5) (.ref q_7) (.ref q_11) (.ref q_13) (.ref q_15) (.ref q_17) 0 (.ref q_19) 0 (.ref q_21) (-1) (-1) (.ref q_23) 0 (.ref q_25) 0 0 0 0 q_9 q_1 cA_2 cA_10 (fun _ => 0) hx hb hml hown hw0 hN hK8 hA (fun g9 hg9 H locs hP hD hS ls hl => ?_) 513 0 (by decide) (by decide) (fun _ => 0) (fun i hi => absurd hi (Nat.not_lt_zero i)) _ _ hP8 hD8 hS ls (lv_sub hl [0, 1] rfl)
  replace hK := hK8
  have hP9 := hP.sub (ws' := [(h0, .inr (7, [.int 0, .int 0, .int (-1), .ref q_1, .int 0, .int 0, .ref q_3, .ref q_5, .ref q_7, .ref q_9, .ref q_11, .ref q_13, .ref q_15, .ref q_17, .int 0, .ref q_19, .int 0, .ref q_21, .int (-1), .int (-1), .ref q_23, .int 0, .ref q_25, .int 0, .int 0, .int 0, .int 0])), (q_1, .inl (cA_2, 256, .inl (fun _ => 0))), (q_9, .inl (cA_10, 512, .inl (g9)))]) [0, 1, 2] rfl
  have hD9 := hD.sub (ws' := [(h0, .inr (7, [.int 0, .int 0, .int (-1), .ref q_1, .int 0, .int 0, .ref q_3, .ref q_5, .ref q_7, .ref q_9, .ref q_11, .ref q_13, .ref q_15, .ref q_17, .int 0, .ref q_19, .int 0, .ref q_21, .int (-1), .int (-1), .ref q_23, .int 0, .ref q_25, .int 0, .int 0, .int 0, .int 0])), (q_1, .inl (cA_2, 256, .inl (fun _ => 0))), (q_9, .inl (cA_10, 512, .inl (g9)))]) [0, 1, 2] (by decide) rfl
  have hK9 := hK.sub (tys' := [(cA_2, .byte), (cA_10, .short)]) [0, 1] rfl
  exact W.vret hx hb hr (fun t ht hW => ⟨⟨(), rfl, trivial, q_1, q_3, q_5, q_7, q_9, q_11, q_13, q_15, q_17, q_19, q_21, q_23, q_25, cA_2, cA_10, g9, hg9, by rw [ht]; exact hP9, va_K.moved hW.alike hK9, hD9⟩, hS.F ht⟩) hS.2.2 d_O_init_155
set_option maxHeartbeats 4000000 in
set_option maxRecDepth 100000 in
theorem m_feed (l : Launch) (dC : Nat → ClassId) (dI : Nat → Nat → Nat) (sz : Nat) (h0 : Nat) (i_thrown : Int32) (i_lasts : Int32) (i_documents : Int32) (v_gone : Value) (v_first : Value) (v_many : Value) (v_lengths : Value) (v_authors : Value) (v_sums : Value) (v_row : Value) (v_made : Value) (i_madeSize : Int32) (v_base : Value) (i_baseSize : Int32) (v_text : Value) (i_textSize : Int32) (i_textSteps : Int32) (v_other : Value) (i_otherSize : Int32) (v_piece : Value) (i_pieceSize : Int32) (i_at : Int32) (i_end : Int32) (i_value : Int32) (hbuf : Nat) (cB : ClassId) (f : Nat → Int32) (a1 : Int32) (a2 : Int32) (a3 : Int32) (a4 : Int32) (a5 : Int32)  : Met l y_O_feed k_O_feed ({ frames := 1, cells := 0, slots := 0, locals := 21 } : Room) (va_Pc [.ref h0, .int a1, .int a2, .int a3, .int a4, .int a5] (pc_E (dC, dI) [(h0, .inr (7, [.int i_thrown, .int 0, .int i_lasts, .ref hbuf, .int 0, .int i_documents, v_gone, v_first, v_many, v_lengths, v_authors, v_sums, v_row, v_made, .int i_madeSize, v_base, .int i_baseSize, v_text, .int i_textSize, .int i_textSteps, v_other, .int i_otherSize, v_piece, .int i_pieceSize, .int i_at, .int i_end, .int i_value])), (hbuf, .inl (cB, 256, .inl (f)))] [(cB, .byte)] sz)) (va_Qi (fun (r : Int32) (_ : Unit) => r = 1) (fun (_ : Unit) t => at_E (dC, dI) (va_A [(h0, .inr (7, [.int i_thrown, .int 0, .int i_lasts, .ref hbuf, .int 0, .int i_documents, v_gone, v_first, v_many, v_lengths, v_authors, v_sums, v_row, v_made, .int i_madeSize, v_base, .int i_baseSize, v_text, .int i_textSize, .int i_textSteps, v_other, .int i_otherSize, v_piece, .int i_pieceSize, .int i_at, .int i_end, .int i_value])), (hbuf, .inl (cB, 256, .inl (f)))] sz) [(h0, .inr (7, [.int 0, .int 0, .int i_lasts, .ref hbuf, .int (nI 20), .int i_documents, v_gone, v_first, v_many, v_lengths, v_authors, v_sums, v_row, v_made, .int i_madeSize, v_base, .int i_baseSize, v_text, .int i_textSize, .int i_textSteps, v_other, .int i_otherSize, v_piece, .int i_pieceSize, .int i_at, .int i_end, .int i_value]))] [] t) (va_A [(h0, .inr (7, [.int i_thrown, .int 0, .int i_lasts, .ref hbuf, .int 0, .int i_documents, v_gone, v_first, v_many, v_lengths, v_authors, v_sums, v_row, v_made, .int i_madeSize, v_base, .int i_baseSize, v_text, .int i_textSize, .int i_textSteps, v_other, .int i_otherSize, v_piece, .int i_pieceSize, .int i_at, .int i_end, .int i_value])), (hbuf, .inl (cB, 256, .inl (f)))] sz)) 0 0 (va_A [(h0, .inr (7, [.int i_thrown, .int 0, .int i_lasts, .ref hbuf, .int 0, .int i_documents, v_gone, v_first, v_many, v_lengths, v_authors, v_sums, v_row, v_made, .int i_madeSize, v_base, .int i_baseSize, v_text, .int i_textSize, .int i_textSteps, v_other, .int i_otherSize, v_piece, .int i_pieceSize, .int i_at, .int i_end, .int i_value])), (hbuf, .inl (cB, 256, .inl (f)))] sz) := by
  refine Met.ofW (cc := prog_9_method_5_code) (maxL := 8) (ret := (some .boolean)) (by decide) rfl ?_
  intro p e s m args below meth c s₁ B hml hv
  obtain ⟨rfl, hsz, hP, hK, hD0, hN⟩ := hv
  have hx := B.exec
  have hb := B.bytes
  have hr := B.returns
  have hts := atoms_spec (ws := k_O_feed) B.pre
  have hw0 : ∀ w ∈ w0, w.before _ s = true := fun w h => hts w (List.mem_cons_of_mem _ h)
  have hown : s.vm.findClass R_O = some m.cls := findClass_of_methodNamed B.named
  have hlocks := B.notSynchronized
  subst hsz
  have hD := hD0.self (sz := s.heap.size)
  generalize hAe : va_A [(h0, .inr (7, [.int i_thrown, .int 0, .int i_lasts, .ref hbuf, .int 0, .int i_documents, v_gone, v_first, v_many, v_lengths, v_authors, v_sums, v_row, v_made, .int i_madeSize, v_base, .int i_baseSize, v_text, .int i_textSize, .int i_textSteps, v_other, .int i_otherSize, v_piece, .int i_pieceSize, .int i_at, .int i_end, .int i_value])), (hbuf, .inl (cB, 256, .inl (f)))] s.heap.size = A at hD ⊢
  have hA : ∀ q : Nat, s.heap.size ≤ q → A q := fun q h => by rw [← hAe]; exact Or.inr h
  have hS : va_S A s.heap s.heap [] := va_S.rf
  have hP : va_P (dC, dI) vwCl [(h0, .inr (7, [.int i_thrown, .int 0, .int i_lasts, .ref hbuf, .int 0, .int i_documents, v_gone, v_first, v_many, v_lengths, v_authors, v_sums, v_row, v_made, .int i_madeSize, v_base, .int i_baseSize, v_text, .int i_textSize, .int i_textSteps, v_other, .int i_otherSize, v_piece, .int i_pieceSize, .int i_at, .int i_end, .int i_value])), (hbuf, .inl (cB, 256, .inl (f)))] s.heap := hP
  have hl := lv_entry ([.ref h0, .int a1, .int a2, .int a3, .int a4, .int a5]) (n := 8) (Nat.le_of_ble_eq_true rfl)
  rw [lg_entry_eq]
  generalize (lg_sl ([.ref h0, .int a1, .int a2, .int a3, .int a4, .int a5]) ++ List.replicate (8 - (lg_sl ([.ref h0, .int a1, .int a2, .int a3, .int a4, .int a5])).length) Slot.unset).toArray = ls at hl ⊢
  have hl : lv_has ls 8 [(0, .ref h0), (1, .int a1), (2, .int a2), (3, .int a3), (4, .int a4), (5, .int a5)] := hl
  refine lv_aload_n hx hb d_O_feed_0 rfl (lv_at hl 0 rfl) ?_
  refine lv_iconst (v := 1) hx hb d_O_feed_1 (by decide) ?_
  have hPc := hP.sub (ws' := [(h0, .inr (7, [.int i_thrown, .int 0, .int i_lasts, .ref hbuf, .int 0, .int i_documents, v_gone, v_first, v_many, v_lengths, v_authors, v_sums, v_row, v_made, .int i_madeSize, v_base, .int i_baseSize, v_text, .int i_textSize, .int i_textSteps, v_other, .int i_otherSize, v_piece, .int i_pieceSize, .int i_at, .int i_end, .int i_value]))]) [0] rfl
  have hKc := hK.sub (tys' := []) [] rfl
  have hDc := hD.sub (ws' := [(h0, .inr (7, [.int i_thrown, .int 0, .int i_lasts, .ref hbuf, .int 0, .int i_documents, v_gone, v_first, v_many, v_lengths, v_authors, v_sums, v_row, v_made, .int i_madeSize, v_base, .int i_baseSize, v_text, .int i_textSize, .int i_textSteps, v_other, .int i_otherSize, v_piece, .int i_pieceSize, .int i_at, .int i_end, .int i_value]))]) [0] (by decide) rfl
  have hFc := va_free (wc := [(h0, .inr (7, [.int i_thrown, .int 0, .int i_lasts, .ref hbuf, .int 0, .int i_documents, v_gone, v_first, v_many, v_lengths, v_authors, v_sums, v_row, v_made, .int i_madeSize, v_base, .int i_baseSize, v_text, .int i_textSize, .int i_textSteps, v_other, .int i_otherSize, v_piece, .int i_pieceSize, .int i_at, .int i_end, .int i_value]))]) hD hS hA [0] rfl
  refine va_calli (va_runV (As := [.int 1]) (rest := []) ⟨hx, hb, hml, hown, hw0⟩ (m_runs l dC dI s.heap.size h0 i_thrown i_lasts (.ref hbuf) 0 i_documents v_gone v_first v_many v_lengths v_authors v_sums v_row v_made i_madeSize v_base i_baseSize v_text i_textSize i_textSteps v_other i_otherSize v_piece i_pieceSize i_at i_end i_value 1) (cwV 1 hw0 (gd_V 176 177 178 173 179 rfl rfl rfl rfl rfl) rfl rfl rfl (by decide +kernel) ⟨by decide +kernel, by decide +kernel⟩) (prV_E hPc hKc hDc hN (va_recv hKc hPc (ci := 7) (q0 := 0) rfl rfl)) rfl rfl hl.1 rfl (lv_room (Nat.le_of_ble_eq_true rfl)) d_O_feed_2 ⟨by decide +kernel, by decide +kernel⟩) hS (fun q _ h => hFc q h) hFc (fun r_1 u t H1 locs ht hvm hw hB hz1 hk1 hS => ?_)
  obtain ⟨hP1, hK1, hD1⟩ := hB
  rw [ht] at hP1
  have hK1 := va_K.moved hvm.symm hK1
  try dsimp only at hw
  obtain ⟨hP, hD⟩ := va_join (wr := [(hbuf, .inl (cB, 256, .inl (f)))]) (w1 := [(h0, .inr (7, [.int 0, .int 0, .int i_lasts, .ref hbuf, .int 0, .int i_documents, v_gone, v_first, v_many, v_lengths, v_authors, v_sums, v_row, v_made, .int i_madeSize, v_base, .int i_baseSize, v_text, .int i_textSize, .int i_textSteps, v_other, .int i_otherSize, v_piece, .int i_pieceSize, .int i_at, .int i_end, .int i_value]))]) hP hD [0] [1] rfl rfl (by decide) (by decide) hk1 hFc hP1 hD1
  generalize H1 = H at hP hS ⊢
  replace hP : va_P (dC, dI) vwCl [(hbuf, .inl (cB, 256, .inl (f))), (h0, .inr (7, [.int 0, .int 0, .int i_lasts, .ref hbuf, .int 0, .int i_documents, v_gone, v_first, v_many, v_lengths, v_authors, v_sums, v_row, v_made, .int i_madeSize, v_base, .int i_baseSize, v_text, .int i_textSize, .int i_textSteps, v_other, .int i_otherSize, v_piece, .int i_pieceSize, .int i_at, .int i_end, .int i_value]))] H := hP
  replace hD : va_D A [(hbuf, .inl (cB, 256, .inl (f))), (h0, .inr (7, [.int 0, .int 0, .int i_lasts, .ref hbuf, .int 0, .int i_documents, v_gone, v_first, v_many, v_lengths, v_authors, v_sums, v_row, v_made, .int i_madeSize, v_base, .int i_baseSize, v_text, .int i_textSize, .int i_textSteps, v_other, .int i_otherSize, v_piece, .int i_pieceSize, .int i_at, .int i_end, .int i_value]))] := hD
  replace hK : va_K (dC, dI) vwCl [(cB, .byte)] s := hK
  obtain rfl : r_1 = 1 := hw
  refine lv_if_eq (tgt := 21) hx hb d_O_feed_5 (by decide) (fun h9 => absurd h9 (by decide +kernel)) (fun _ => ?_)
  refine lv_aload_n hx hb d_O_feed_8 rfl (lv_at hl 0 rfl) ?_
  refine va_get (D := (dC, dI)) (ci := 7) (v := .int 0) (C := R_O) (T := F_O) (N := 27) hx hb hw0 in_O hown hK hP 1 rfl rfl 4 (by decide) (hw0 (.fieldLink R_O 69 "TextKeeperModel" "size" "I") (List.mem_of_getElem? (i := 194) rfl)) (fun _ h9 => h9) rfl d_O_feed_9 ?_
  refine lv_bipush (v := 20) hx hb d_O_feed_12 (by decide +kernel) ?_
  refine lv_iadd hx hb d_O_feed_14 ?_
  refine lv_topi (fun x_3 ex_3 => ?_)
  obtain rfl : x_3 = 20 := ex_3.trans (by decide +kernel)
  clear ex_3
  refine lv_sipush (v := 256) hx hb d_O_feed_15 (by decide +kernel) ?_
  refine lv_icmp_le (tgt := 23) hx hb d_O_feed_18 (by decide) (fun _ => ?_) (fun h9 => absurd h9 (by decide +kernel))
  refine lv_iconst (v := 0) hx hb d_O_feed_23 (by decide) ?_
  refine lv_istore (lv' := [(6, .int 0), (0, .ref h0), (1, .int a1), (2, .int a2), (3, .int a3), (4, .int a4), (5, .int a5)]) hx hb d_O_feed_24 hl (by decide) rfl (fun ls hl => ?_)
  have hP8 := hP.sub (ws' := [(h0, .inr (7, [.int 0, .int 0, .int i_lasts, .ref hbuf, .int 0, .int i_documents, v_gone, v_first, v_many, v_lengths, v_authors, v_sums, v_row, v_made, .int i_madeSize, v_base, .int i_baseSize, v_text, .int i_textSize, .int i_textSteps, v_other, .int i_otherSize, v_piece, .int i_pieceSize, .int i_at, .int i_end, .int i_value])), (hbuf, .inl (cB, 256, .inl (f)))]) [1, 0] rfl
  have hD8 := hD.sub (ws' := [(h0, .inr (7, [.int 0, .int 0, .int i_lasts, .ref hbuf, .int 0, .int i_documents, v_gone, v_first, v_many, v_lengths, v_authors, v_sums, v_row, v_made, .int i_madeSize, v_base, .int i_baseSize, v_text, .int i_textSize, .int i_textSteps, v_other, .int i_otherSize, v_piece, .int i_pieceSize, .int i_at, .int i_end, .int i_value])), (hbuf, .inl (cB, 256, .inl (f)))]) [1, 0] (by decide) rfl
  have hK8 := hK.sub (tys' := [(cB, .byte)]) [0] rfl
  refine lp_feed h0 i_lasts i_documents (v_gone) (v_first) (v_many) (v_lengths) (v_authors) (v_sums) (v_row) (v_made) i_madeSize (v_base) i_baseSize (v_text) i_textSize i_textSteps (v_other) i_otherSize (v_piece) i_pieceSize i_at i_end i_value hbuf cB a1 a2 a3 a4 a5 hx hb hml hown hw0 hN hK8 hA (fun f9 H locs hP hD hS ls hl => ?_) 21 0 (by decide) (by decide) (f) _ _ hP8 hD8 hS ls (lv_sub hl [0, 1, 2, 3, 4, 5, 6] rfl)
  refine lv_iconst (v := 1) hx hb d_O_feed_120 (by decide) ?_
  have hP9 := hP.sub (ws' := [(h0, .inr (7, [.int 0, .int 0, .int i_lasts, .ref hbuf, .int (nI 20), .int i_documents, v_gone, v_first, v_many, v_lengths, v_authors, v_sums, v_row, v_made, .int i_madeSize, v_base, .int i_baseSize, v_text, .int i_textSize, .int i_textSteps, v_other, .int i_otherSize, v_piece, .int i_pieceSize, .int i_at, .int i_end, .int i_value]))]) [0] rfl
  have hD9 := hD.sub (ws' := [(h0, .inr (7, [.int 0, .int 0, .int i_lasts, .ref hbuf, .int (nI 20), .int i_documents, v_gone, v_first, v_many, v_lengths, v_authors, v_sums, v_row, v_made, .int i_madeSize, v_base, .int i_baseSize, v_text, .int i_textSize, .int i_textSteps, v_other, .int i_otherSize, v_piece, .int i_pieceSize, .int i_at, .int i_end, .int i_value]))]) [0] (by decide) rfl
  have hK9 := hK.sub (tys' := []) [] rfl
  exact W.zret (v := 1) (ty := .boolean) hx hb hr rfl (fun t ht hW => ⟨⟨1, (), rfl, rfl, by rw [ht]; exact hP9, va_K.moved hW.alike hK9, hD9⟩, hS.F ht⟩) hS.2.2 d_O_feed_121
set_option maxHeartbeats 4000000 in
set_option maxRecDepth 100000 in
theorem m_free (l : Launch) (dC : Nat → ClassId) (dI : Nat → Nat → Nat) (sz : Nat) (h0 : Nat) (i_thrown : Int32) (i_down : Int32) (i_lasts : Int32) (v_buffer : Value) (i_size : Int32) (i_documents : Int32) (v_gone : Value) (v_first : Value) (v_many : Value) (v_authors : Value) (v_sums : Value) (v_row : Value) (v_made : Value) (i_madeSize : Int32) (v_base : Value) (i_baseSize : Int32) (v_text : Value) (i_textSize : Int32) (i_textSteps : Int32) (v_other : Value) (i_otherSize : Int32) (v_piece : Value) (i_pieceSize : Int32) (i_at : Int32) (i_end : Int32) (i_value : Int32) (hlen : Nat) (cS : ClassId) (g : Nat → Int32) (hg : ∀ i, i < 512 → g i = (-1)) : Met l y_O_free k_O_free ({ frames := 0, cells := 0, slots := 0, locals := 0 } : Room) (va_Pc [.ref h0] (pc_E (dC, dI) [(h0, .inr (7, [.int i_thrown, .int i_down, .int i_lasts, v_buffer, .int i_size, .int i_documents, v_gone, v_first, v_many, .ref hlen, v_authors, v_sums, v_row, v_made, .int i_madeSize, v_base, .int i_baseSize, v_text, .int i_textSize, .int i_textSteps, v_other, .int i_otherSize, v_piece, .int i_pieceSize, .int i_at, .int i_end, .int i_value])), (hlen, .inl (cS, 512, .inl (g)))] [(cS, .short)] sz)) (va_Qi (fun (r : Int32) (_ : Unit) => r = 512) (fun (_ : Unit) t => at_E (dC, dI) (va_A [(h0, .inr (7, [.int i_thrown, .int i_down, .int i_lasts, v_buffer, .int i_size, .int i_documents, v_gone, v_first, v_many, .ref hlen, v_authors, v_sums, v_row, v_made, .int i_madeSize, v_base, .int i_baseSize, v_text, .int i_textSize, .int i_textSteps, v_other, .int i_otherSize, v_piece, .int i_pieceSize, .int i_at, .int i_end, .int i_value])), (hlen, .inl (cS, 512, .inl (g)))] sz) [(h0, .inr (7, [.int i_thrown, .int i_down, .int i_lasts, v_buffer, .int i_size, .int i_documents, v_gone, v_first, v_many, .ref hlen, v_authors, v_sums, v_row, v_made, .int i_madeSize, v_base, .int i_baseSize, v_text, .int i_textSize, .int i_textSteps, v_other, .int i_otherSize, v_piece, .int i_pieceSize, .int i_at, .int i_end, .int i_value])), (hlen, .inl (cS, 512, .inl (g)))] [(cS, .short)] t) (va_A [(h0, .inr (7, [.int i_thrown, .int i_down, .int i_lasts, v_buffer, .int i_size, .int i_documents, v_gone, v_first, v_many, .ref hlen, v_authors, v_sums, v_row, v_made, .int i_madeSize, v_base, .int i_baseSize, v_text, .int i_textSize, .int i_textSteps, v_other, .int i_otherSize, v_piece, .int i_pieceSize, .int i_at, .int i_end, .int i_value])), (hlen, .inl (cS, 512, .inl (g)))] sz)) 0 0 (va_A [(h0, .inr (7, [.int i_thrown, .int i_down, .int i_lasts, v_buffer, .int i_size, .int i_documents, v_gone, v_first, v_many, .ref hlen, v_authors, v_sums, v_row, v_made, .int i_madeSize, v_base, .int i_baseSize, v_text, .int i_textSize, .int i_textSteps, v_other, .int i_otherSize, v_piece, .int i_pieceSize, .int i_at, .int i_end, .int i_value])), (hlen, .inl (cS, 512, .inl (g)))] sz) := by
  refine Met.ofW (cc := prog_9_method_12_code) (maxL := 3) (ret := (some .int)) (by decide) rfl ?_
  intro p e s m args below meth c s₁ B hml hv
  obtain ⟨rfl, hsz, hP, hK, hD0, hN⟩ := hv
  have hx := B.exec
  have hb := B.bytes
  have hr := B.returns
  have hts := atoms_spec (ws := k_O_free) B.pre
  have hw0 : ∀ w ∈ w0, w.before _ s = true := fun w h => hts w (List.mem_cons_of_mem _ h)
  have hown : s.vm.findClass R_O = some m.cls := findClass_of_methodNamed B.named
  have hlocks := B.notSynchronized
  subst hsz
  have hD := hD0.self (sz := s.heap.size)
  generalize hAe : va_A [(h0, .inr (7, [.int i_thrown, .int i_down, .int i_lasts, v_buffer, .int i_size, .int i_documents, v_gone, v_first, v_many, .ref hlen, v_authors, v_sums, v_row, v_made, .int i_madeSize, v_base, .int i_baseSize, v_text, .int i_textSize, .int i_textSteps, v_other, .int i_otherSize, v_piece, .int i_pieceSize, .int i_at, .int i_end, .int i_value])), (hlen, .inl (cS, 512, .inl (g)))] s.heap.size = A at hD ⊢
  have hA : ∀ q : Nat, s.heap.size ≤ q → A q := fun q h => by rw [← hAe]; exact Or.inr h
  have hS : va_S A s.heap s.heap [] := va_S.rf
  have hP : va_P (dC, dI) vwCl [(h0, .inr (7, [.int i_thrown, .int i_down, .int i_lasts, v_buffer, .int i_size, .int i_documents, v_gone, v_first, v_many, .ref hlen, v_authors, v_sums, v_row, v_made, .int i_madeSize, v_base, .int i_baseSize, v_text, .int i_textSize, .int i_textSteps, v_other, .int i_otherSize, v_piece, .int i_pieceSize, .int i_at, .int i_end, .int i_value])), (hlen, .inl (cS, 512, .inl (g)))] s.heap := hP
  have hl := lv_entry ([.ref h0]) (n := 3) (Nat.le_of_ble_eq_true rfl)
  rw [lg_entry_eq]
  generalize (lg_sl ([.ref h0]) ++ List.replicate (3 - (lg_sl ([.ref h0])).length) Slot.unset).toArray = ls at hl ⊢
  have hl : lv_has ls 3 [(0, .ref h0)] := hl
  refine lv_sipush (v := 512) hx hb d_O_free_0 (by decide +kernel) ?_
  refine lv_istore_n (lv' := [(1, .int 512), (0, .ref h0)]) hx hb d_O_free_3 rfl hl (by decide) rfl (fun ls hl => ?_)
  refine lv_iconst (v := 0) hx hb d_O_free_4 (by decide) ?_
  refine lv_istore_n (lv' := [(2, .int 0), (1, .int 512), (0, .ref h0)]) hx hb d_O_free_5 rfl hl (by decide) rfl (fun ls hl => ?_)
  have hP8 := hP.sub (ws' := [(h0, .inr (7, [.int i_thrown, .int i_down, .int i_lasts, v_buffer, .int i_size, .int i_documents, v_gone, v_first, v_many, .ref hlen, v_authors, v_sums, v_row, v_made, .int i_madeSize, v_base, .int i_baseSize, v_text, .int i_textSize, .int i_textSteps, v_other, .int i_otherSize, v_piece, .int i_pieceSize, .int i_at, .int i_end, .int i_value])), (hlen, .inl (cS, 512, .inl (g)))]) [0, 1] rfl
  have hD8 := hD.sub (ws' := [(h0, .inr (7, [.int i_thrown, .int i_down, .int i_lasts, v_buffer, .int i_size, .int i_documents, v_gone, v_first, v_many, .ref hlen, v_authors, v_sums, v_row, v_made, .int i_madeSize, v_base, .int i_baseSize, v_text, .int i_textSize, .int i_textSteps, v_other, .int i_otherSize, v_piece, .int i_pieceSize, .int i_at, .int i_end, .int i_value])), (hlen, .inl (cS, 512, .inl (g)))]) [0, 1] (by decide) rfl
  have hK8 := hK.sub (tys' := [(cS, .short)]) [0] rfl
  refine lp_free h0 i_thrown i_down i_lasts v_buffer i_size i_documents v_gone v_first v_many v_authors v_sums v_row v_made i_madeSize v_base i_baseSize v_text i_textSize i_textSteps v_other i_otherSize v_piece i_pieceSize i_at i_end i_value hlen cS g hg hx hb hml hown hw0 hN hK8 hA (fun H locs hP hD hS ls hl => ?_) 513 0 (by decide) (by decide) _ _ hP8 hD8 hS ls (lv_sub hl [0, 1, 2] rfl)
  refine lv_iload_n hx hb d_O_free_44 rfl (lv_at hl 1 rfl) ?_
  have hP9 := hP.sub (ws' := [(h0, .inr (7, [.int i_thrown, .int i_down, .int i_lasts, v_buffer, .int i_size, .int i_documents, v_gone, v_first, v_many, .ref hlen, v_authors, v_sums, v_row, v_made, .int i_madeSize, v_base, .int i_baseSize, v_text, .int i_textSize, .int i_textSteps, v_other, .int i_otherSize, v_piece, .int i_pieceSize, .int i_at, .int i_end, .int i_value])), (hlen, .inl (cS, 512, .inl (g)))]) [0, 1] rfl
  have hD9 := hD.sub (ws' := [(h0, .inr (7, [.int i_thrown, .int i_down, .int i_lasts, v_buffer, .int i_size, .int i_documents, v_gone, v_first, v_many, .ref hlen, v_authors, v_sums, v_row, v_made, .int i_madeSize, v_base, .int i_baseSize, v_text, .int i_textSize, .int i_textSteps, v_other, .int i_otherSize, v_piece, .int i_pieceSize, .int i_at, .int i_end, .int i_value])), (hlen, .inl (cS, 512, .inl (g)))]) [0, 1] (by decide) rfl
  have hK9 := hK.sub (tys' := [(cS, .short)]) [0] rfl
  exact W.iret (v := 512) hx hb hr (fun t ht hW => ⟨⟨512, (), rfl, rfl, by rw [ht]; exact hP9, va_K.moved hW.alike hK9, hD9⟩, hS.F ht⟩) hS.2.2 d_O_free_45
set_option maxHeartbeats 4000000 in
set_option maxRecDepth 100000 in
theorem m_freeBlocks (l : Launch) (dC : Nat → ClassId) (dI : Nat → Nat → Nat) (sz : Nat) (h0 : Nat) (i_thrown : Int32) (i_lasts : Int32) (v_buffer : Value) (i_size : Int32) (i_documents : Int32) (v_gone : Value) (v_first : Value) (v_many : Value) (v_authors : Value) (v_sums : Value) (v_row : Value) (v_made : Value) (i_madeSize : Int32) (v_base : Value) (i_baseSize : Int32) (v_text : Value) (i_textSize : Int32) (i_textSteps : Int32) (v_other : Value) (i_otherSize : Int32) (v_piece : Value) (i_pieceSize : Int32) (i_at : Int32) (i_end : Int32) (i_value : Int32) (hlen : Nat) (cS : ClassId) (g : Nat → Int32) (hg : ∀ i, i < 512 → g i = (-1)) : Met l y_O_freeBlocks k_O_freeBlocks ({ frames := 1, cells := 0, slots := 0, locals := 22 } : Room) (va_Pc [.ref h0] (pc_E (dC, dI) [(h0, .inr (7, [.int i_thrown, .int 0, .int i_lasts, v_buffer, .int i_size, .int i_documents, v_gone, v_first, v_many, .ref hlen, v_authors, v_sums, v_row, v_made, .int i_madeSize, v_base, .int i_baseSize, v_text, .int i_textSize, .int i_textSteps, v_other, .int i_otherSize, v_piece, .int i_pieceSize, .int i_at, .int i_end, .int i_value])), (hlen, .inl (cS, 512, .inl (g)))] [(cS, .short)] sz)) (va_Qi (fun (r : Int32) (_ : Unit) => r = 512) (fun (_ : Unit) t => at_E (dC, dI) (va_A [(h0, .inr (7, [.int i_thrown, .int 0, .int i_lasts, v_buffer, .int i_size, .int i_documents, v_gone, v_first, v_many, .ref hlen, v_authors, v_sums, v_row, v_made, .int i_madeSize, v_base, .int i_baseSize, v_text, .int i_textSize, .int i_textSteps, v_other, .int i_otherSize, v_piece, .int i_pieceSize, .int i_at, .int i_end, .int i_value])), (hlen, .inl (cS, 512, .inl (g)))] sz) [(h0, .inr (7, [.int 0, .int 0, .int i_lasts, v_buffer, .int i_size, .int i_documents, v_gone, v_first, v_many, .ref hlen, v_authors, v_sums, v_row, v_made, .int i_madeSize, v_base, .int i_baseSize, v_text, .int i_textSize, .int i_textSteps, v_other, .int i_otherSize, v_piece, .int i_pieceSize, .int i_at, .int i_end, .int i_value]))] [] t) (va_A [(h0, .inr (7, [.int i_thrown, .int 0, .int i_lasts, v_buffer, .int i_size, .int i_documents, v_gone, v_first, v_many, .ref hlen, v_authors, v_sums, v_row, v_made, .int i_madeSize, v_base, .int i_baseSize, v_text, .int i_textSize, .int i_textSteps, v_other, .int i_otherSize, v_piece, .int i_pieceSize, .int i_at, .int i_end, .int i_value])), (hlen, .inl (cS, 512, .inl (g)))] sz)) 0 0 (va_A [(h0, .inr (7, [.int i_thrown, .int 0, .int i_lasts, v_buffer, .int i_size, .int i_documents, v_gone, v_first, v_many, .ref hlen, v_authors, v_sums, v_row, v_made, .int i_madeSize, v_base, .int i_baseSize, v_text, .int i_textSize, .int i_textSteps, v_other, .int i_otherSize, v_piece, .int i_pieceSize, .int i_at, .int i_end, .int i_value])), (hlen, .inl (cS, 512, .inl (g)))] sz) := by
  refine Met.ofW (cc := prog_9_method_39_code) (maxL := 1) (ret := (some .int)) (by decide) rfl ?_
  intro p e s m args below meth c s₁ B hml hv
  obtain ⟨rfl, hsz, hP, hK, hD0, hN⟩ := hv
  have hx := B.exec
  have hb := B.bytes
  have hr := B.returns
  have hts := atoms_spec (ws := k_O_freeBlocks) B.pre
  have hw0 : ∀ w ∈ w0, w.before _ s = true := fun w h => hts w (List.mem_cons_of_mem _ h)
  have hown : s.vm.findClass R_O = some m.cls := findClass_of_methodNamed B.named
  have hlocks := B.notSynchronized
  subst hsz
  have hD := hD0.self (sz := s.heap.size)
  generalize hAe : va_A [(h0, .inr (7, [.int i_thrown, .int 0, .int i_lasts, v_buffer, .int i_size, .int i_documents, v_gone, v_first, v_many, .ref hlen, v_authors, v_sums, v_row, v_made, .int i_madeSize, v_base, .int i_baseSize, v_text, .int i_textSize, .int i_textSteps, v_other, .int i_otherSize, v_piece, .int i_pieceSize, .int i_at, .int i_end, .int i_value])), (hlen, .inl (cS, 512, .inl (g)))] s.heap.size = A at hD ⊢
  have hA : ∀ q : Nat, s.heap.size ≤ q → A q := fun q h => by rw [← hAe]; exact Or.inr h
  have hS : va_S A s.heap s.heap [] := va_S.rf
  have hP : va_P (dC, dI) vwCl [(h0, .inr (7, [.int i_thrown, .int 0, .int i_lasts, v_buffer, .int i_size, .int i_documents, v_gone, v_first, v_many, .ref hlen, v_authors, v_sums, v_row, v_made, .int i_madeSize, v_base, .int i_baseSize, v_text, .int i_textSize, .int i_textSteps, v_other, .int i_otherSize, v_piece, .int i_pieceSize, .int i_at, .int i_end, .int i_value])), (hlen, .inl (cS, 512, .inl (g)))] s.heap := hP
  have hl := lv_entry ([.ref h0]) (n := 1) (Nat.le_of_ble_eq_true rfl)
  rw [lg_entry_eq]
  generalize (lg_sl ([.ref h0]) ++ List.replicate (1 - (lg_sl ([.ref h0])).length) Slot.unset).toArray = ls at hl ⊢
  have hl : lv_has ls 1 [(0, .ref h0)] := hl
  refine lv_aload_n hx hb d_O_freeBlocks_0 rfl (lv_at hl 0 rfl) ?_
  refine lv_iconst (v := 1) hx hb d_O_freeBlocks_1 (by decide) ?_
  have hPc := hP.sub (ws' := [(h0, .inr (7, [.int i_thrown, .int 0, .int i_lasts, v_buffer, .int i_size, .int i_documents, v_gone, v_first, v_many, .ref hlen, v_authors, v_sums, v_row, v_made, .int i_madeSize, v_base, .int i_baseSize, v_text, .int i_textSize, .int i_textSteps, v_other, .int i_otherSize, v_piece, .int i_pieceSize, .int i_at, .int i_end, .int i_value]))]) [0] rfl
  have hKc := hK.sub (tys' := []) [] rfl
  have hDc := hD.sub (ws' := [(h0, .inr (7, [.int i_thrown, .int 0, .int i_lasts, v_buffer, .int i_size, .int i_documents, v_gone, v_first, v_many, .ref hlen, v_authors, v_sums, v_row, v_made, .int i_madeSize, v_base, .int i_baseSize, v_text, .int i_textSize, .int i_textSteps, v_other, .int i_otherSize, v_piece, .int i_pieceSize, .int i_at, .int i_end, .int i_value]))]) [0] (by decide) rfl
  have hFc := va_free (wc := [(h0, .inr (7, [.int i_thrown, .int 0, .int i_lasts, v_buffer, .int i_size, .int i_documents, v_gone, v_first, v_many, .ref hlen, v_authors, v_sums, v_row, v_made, .int i_madeSize, v_base, .int i_baseSize, v_text, .int i_textSize, .int i_textSteps, v_other, .int i_otherSize, v_piece, .int i_pieceSize, .int i_at, .int i_end, .int i_value]))]) hD hS hA [0] rfl
  refine va_calli (va_runV (As := [.int 1]) (rest := []) ⟨hx, hb, hml, hown, hw0⟩ (m_runs l dC dI s.heap.size h0 i_thrown i_lasts v_buffer i_size i_documents v_gone v_first v_many (.ref hlen) v_authors v_sums v_row v_made i_madeSize v_base i_baseSize v_text i_textSize i_textSteps v_other i_otherSize v_piece i_pieceSize i_at i_end i_value 1) (cwV 1 hw0 (gd_V 176 177 178 173 179 rfl rfl rfl rfl rfl) rfl rfl rfl (by decide +kernel) ⟨by decide +kernel, by decide +kernel⟩) (prV_E hPc hKc hDc hN (va_recv hKc hPc (ci := 7) (q0 := 0) rfl rfl)) rfl rfl hl.1 rfl (lv_room (Nat.le_of_ble_eq_true rfl)) d_O_freeBlocks_2 ⟨by decide +kernel, by decide +kernel⟩) hS (fun q _ h => hFc q h) hFc (fun r_1 u t H1 locs ht hvm hw hB hz1 hk1 hS => ?_)
  obtain ⟨hP1, hK1, hD1⟩ := hB
  rw [ht] at hP1
  have hK1 := va_K.moved hvm.symm hK1
  try dsimp only at hw
  obtain ⟨hP, hD⟩ := va_join (wr := [(hlen, .inl (cS, 512, .inl (g)))]) (w1 := [(h0, .inr (7, [.int 0, .int 0, .int i_lasts, v_buffer, .int i_size, .int i_documents, v_gone, v_first, v_many, .ref hlen, v_authors, v_sums, v_row, v_made, .int i_madeSize, v_base, .int i_baseSize, v_text, .int i_textSize, .int i_textSteps, v_other, .int i_otherSize, v_piece, .int i_pieceSize, .int i_at, .int i_end, .int i_value]))]) hP hD [0] [1] rfl rfl (by decide) (by decide) hk1 hFc hP1 hD1
  generalize H1 = H at hP hS ⊢
  replace hP : va_P (dC, dI) vwCl [(hlen, .inl (cS, 512, .inl (g))), (h0, .inr (7, [.int 0, .int 0, .int i_lasts, v_buffer, .int i_size, .int i_documents, v_gone, v_first, v_many, .ref hlen, v_authors, v_sums, v_row, v_made, .int i_madeSize, v_base, .int i_baseSize, v_text, .int i_textSize, .int i_textSteps, v_other, .int i_otherSize, v_piece, .int i_pieceSize, .int i_at, .int i_end, .int i_value]))] H := hP
  replace hD : va_D A [(hlen, .inl (cS, 512, .inl (g))), (h0, .inr (7, [.int 0, .int 0, .int i_lasts, v_buffer, .int i_size, .int i_documents, v_gone, v_first, v_many, .ref hlen, v_authors, v_sums, v_row, v_made, .int i_madeSize, v_base, .int i_baseSize, v_text, .int i_textSize, .int i_textSteps, v_other, .int i_otherSize, v_piece, .int i_pieceSize, .int i_at, .int i_end, .int i_value]))] := hD
  replace hK : va_K (dC, dI) vwCl [(cS, .short)] s := hK
  obtain rfl : r_1 = 1 := hw
  refine lv_if_eq (tgt := 15) hx hb d_O_freeBlocks_5 (by decide) (fun h9 => absurd h9 (by decide +kernel)) (fun _ => ?_)
  refine lv_aload_n hx hb d_O_freeBlocks_8 rfl (lv_at hl 0 rfl) ?_
  have hPc := hP.sub (ws' := [(h0, .inr (7, [.int 0, .int 0, .int i_lasts, v_buffer, .int i_size, .int i_documents, v_gone, v_first, v_many, .ref hlen, v_authors, v_sums, v_row, v_made, .int i_madeSize, v_base, .int i_baseSize, v_text, .int i_textSize, .int i_textSteps, v_other, .int i_otherSize, v_piece, .int i_pieceSize, .int i_at, .int i_end, .int i_value])), (hlen, .inl (cS, 512, .inl ((g))))]) [1, 0] rfl
  have hKc := hK.sub (tys' := [(cS, .short)]) [0] rfl
  have hDc := hD.sub (ws' := [(h0, .inr (7, [.int 0, .int 0, .int i_lasts, v_buffer, .int i_size, .int i_documents, v_gone, v_first, v_many, .ref hlen, v_authors, v_sums, v_row, v_made, .int i_madeSize, v_base, .int i_baseSize, v_text, .int i_textSize, .int i_textSteps, v_other, .int i_otherSize, v_piece, .int i_pieceSize, .int i_at, .int i_end, .int i_value])), (hlen, .inl (cS, 512, .inl ((g))))]) [1, 0] (by decide) rfl
  have hFc := va_free (wc := [(h0, .inr (7, [.int 0, .int 0, .int i_lasts, v_buffer, .int i_size, .int i_documents, v_gone, v_first, v_many, .ref hlen, v_authors, v_sums, v_row, v_made, .int i_madeSize, v_base, .int i_baseSize, v_text, .int i_textSize, .int i_textSteps, v_other, .int i_otherSize, v_piece, .int i_pieceSize, .int i_at, .int i_end, .int i_value])), (hlen, .inl (cS, 512, .inl ((g))))]) hD hS hA [1, 0] rfl
  refine va_calli (va_runV (As := []) (rest := []) ⟨hx, hb, hml, hown, hw0⟩ (m_free l dC dI H.size h0 0 0 i_lasts v_buffer i_size i_documents v_gone v_first v_many v_authors v_sums v_row v_made i_madeSize v_base i_baseSize v_text i_textSize i_textSteps v_other i_otherSize v_piece i_pieceSize i_at i_end i_value hlen cS (g) (by first | assumption | decide | omega)) (cwV 0 hw0 (gd_V 212 213 214 173 215 rfl rfl rfl rfl rfl) rfl rfl rfl (by decide +kernel) ⟨by decide +kernel, by decide +kernel⟩) (prV_E hPc hKc hDc hN (va_recv hKc hPc (ci := 7) (q0 := 0) rfl rfl)) rfl rfl hl.1 rfl (lv_room (Nat.le_of_ble_eq_true rfl)) d_O_freeBlocks_9 ⟨by decide +kernel, by decide +kernel⟩) hS (fun q _ h => hFc q h) hFc (fun r_3 u t H1 locs ht hvm hw hB hz1 hk1 hS => ?_)
  obtain ⟨hP1, hK1, hD1⟩ := hB
  rw [ht] at hP1
  have hK1 := va_K.moved hvm.symm hK1
  try dsimp only at hw
  obtain ⟨hP, hD⟩ := va_join (wr := []) (w1 := [(h0, .inr (7, [.int 0, .int 0, .int i_lasts, v_buffer, .int i_size, .int i_documents, v_gone, v_first, v_many, .ref hlen, v_authors, v_sums, v_row, v_made, .int i_madeSize, v_base, .int i_baseSize, v_text, .int i_textSize, .int i_textSteps, v_other, .int i_otherSize, v_piece, .int i_pieceSize, .int i_at, .int i_end, .int i_value])), (hlen, .inl (cS, 512, .inl ((g))))]) hP hD [1, 0] [] rfl rfl (by decide) (by decide) hk1 hFc hP1 hD1
  generalize H1 = H at hP hS ⊢
  replace hP : va_P (dC, dI) vwCl [(h0, .inr (7, [.int 0, .int 0, .int i_lasts, v_buffer, .int i_size, .int i_documents, v_gone, v_first, v_many, .ref hlen, v_authors, v_sums, v_row, v_made, .int i_madeSize, v_base, .int i_baseSize, v_text, .int i_textSize, .int i_textSteps, v_other, .int i_otherSize, v_piece, .int i_pieceSize, .int i_at, .int i_end, .int i_value])), (hlen, .inl (cS, 512, .inl ((g))))] H := hP
  replace hD : va_D A [(h0, .inr (7, [.int 0, .int 0, .int i_lasts, v_buffer, .int i_size, .int i_documents, v_gone, v_first, v_many, .ref hlen, v_authors, v_sums, v_row, v_made, .int i_madeSize, v_base, .int i_baseSize, v_text, .int i_textSize, .int i_textSteps, v_other, .int i_otherSize, v_piece, .int i_pieceSize, .int i_at, .int i_end, .int i_value])), (hlen, .inl (cS, 512, .inl ((g))))] := hD
  replace hK : va_K (dC, dI) vwCl [(cS, .short)] s := hK
  obtain rfl : r_3 = 512 := hw
  refine lv_goto (tgt := 16) hx hb d_O_freeBlocks_12 (by decide) ?_
  have hP9 := hP.sub (ws' := [(h0, .inr (7, [.int 0, .int 0, .int i_lasts, v_buffer, .int i_size, .int i_documents, v_gone, v_first, v_many, .ref hlen, v_authors, v_sums, v_row, v_made, .int i_madeSize, v_base, .int i_baseSize, v_text, .int i_textSize, .int i_textSteps, v_other, .int i_otherSize, v_piece, .int i_pieceSize, .int i_at, .int i_end, .int i_value]))]) [0] rfl
  have hD9 := hD.sub (ws' := [(h0, .inr (7, [.int 0, .int 0, .int i_lasts, v_buffer, .int i_size, .int i_documents, v_gone, v_first, v_many, .ref hlen, v_authors, v_sums, v_row, v_made, .int i_madeSize, v_base, .int i_baseSize, v_text, .int i_textSize, .int i_textSteps, v_other, .int i_otherSize, v_piece, .int i_pieceSize, .int i_at, .int i_end, .int i_value]))]) [0] (by decide) rfl
  have hK9 := hK.sub (tys' := []) [] rfl
  exact W.iret (v := 512) hx hb hr (fun t ht hW => ⟨⟨512, (), rfl, rfl, by rw [ht]; exact hP9, va_K.moved hW.alike hK9, hD9⟩, hS.F ht⟩) hS.2.2 d_O_freeBlocks_16
set_option maxHeartbeats 4000000 in
set_option maxRecDepth 100000 in
theorem m_verify (l : Launch) (dC : Nat → ClassId) (dI : Nat → Nat → Nat) (sz : Nat) (h0 : Nat) (i_thrown : Int32) (i_lasts : Int32) (v_buffer : Value) (i_size : Int32) (v_gone : Value) (v_first : Value) (v_many : Value) (v_lengths : Value) (v_authors : Value) (v_sums : Value) (v_row : Value) (v_made : Value) (i_madeSize : Int32) (v_base : Value) (i_baseSize : Int32) (v_text : Value) (i_textSize : Int32) (i_textSteps : Int32) (v_other : Value) (i_otherSize : Int32) (v_piece : Value) (i_pieceSize : Int32) (i_at : Int32) (i_end : Int32) (i_value : Int32) (a1 : Int32)  : Met l y_O_verify k_O_verify ({ frames := 2, cells := 0, slots := 0, locals := 43 } : Room) (va_Pc [.ref h0, .int a1] (pc_E (dC, dI) [(h0, .inr (7, [.int i_thrown, .int 0, .int i_lasts, v_buffer, .int i_size, .int 0, v_gone, v_first, v_many, v_lengths, v_authors, v_sums, v_row, v_made, .int i_madeSize, v_base, .int i_baseSize, v_text, .int i_textSize, .int i_textSteps, v_other, .int i_otherSize, v_piece, .int i_pieceSize, .int i_at, .int i_end, .int i_value]))] [] sz)) (va_Qi (fun (r : Int32) (_ : Unit) => r = (-1)) (fun (_ : Unit) t => at_E (dC, dI) (va_A [(h0, .inr (7, [.int i_thrown, .int 0, .int i_lasts, v_buffer, .int i_size, .int 0, v_gone, v_first, v_many, v_lengths, v_authors, v_sums, v_row, v_made, .int i_madeSize, v_base, .int i_baseSize, v_text, .int i_textSize, .int i_textSteps, v_other, .int i_otherSize, v_piece, .int i_pieceSize, .int i_at, .int i_end, .int i_value]))] sz) [(h0, .inr (7, [.int 0, .int 0, .int i_lasts, v_buffer, .int i_size, .int 0, v_gone, v_first, v_many, v_lengths, v_authors, v_sums, v_row, v_made, .int i_madeSize, v_base, .int i_baseSize, v_text, .int i_textSize, .int i_textSteps, v_other, .int i_otherSize, v_piece, .int i_pieceSize, .int i_at, .int i_end, .int i_value]))] [] t) (va_A [(h0, .inr (7, [.int i_thrown, .int 0, .int i_lasts, v_buffer, .int i_size, .int 0, v_gone, v_first, v_many, v_lengths, v_authors, v_sums, v_row, v_made, .int i_madeSize, v_base, .int i_baseSize, v_text, .int i_textSize, .int i_textSteps, v_other, .int i_otherSize, v_piece, .int i_pieceSize, .int i_at, .int i_end, .int i_value]))] sz)) 0 0 (va_A [(h0, .inr (7, [.int i_thrown, .int 0, .int i_lasts, v_buffer, .int i_size, .int 0, v_gone, v_first, v_many, v_lengths, v_authors, v_sums, v_row, v_made, .int i_madeSize, v_base, .int i_baseSize, v_text, .int i_textSize, .int i_textSteps, v_other, .int i_otherSize, v_piece, .int i_pieceSize, .int i_at, .int i_end, .int i_value]))] sz) := by
  refine Met.ofW (cc := prog_9_method_37_code) (maxL := 3) (ret := (some .int)) (by decide) rfl ?_
  intro p e s m args below meth c s₁ B hml hv
  obtain ⟨rfl, hsz, hP, hK, hD0, hN⟩ := hv
  have hx := B.exec
  have hb := B.bytes
  have hr := B.returns
  have hts := atoms_spec (ws := k_O_verify) B.pre
  have hw0 : ∀ w ∈ w0, w.before _ s = true := fun w h => hts w (List.mem_cons_of_mem _ h)
  have hown : s.vm.findClass R_O = some m.cls := findClass_of_methodNamed B.named
  have hlocks := B.notSynchronized
  subst hsz
  have hD := hD0.self (sz := s.heap.size)
  generalize hAe : va_A [(h0, .inr (7, [.int i_thrown, .int 0, .int i_lasts, v_buffer, .int i_size, .int 0, v_gone, v_first, v_many, v_lengths, v_authors, v_sums, v_row, v_made, .int i_madeSize, v_base, .int i_baseSize, v_text, .int i_textSize, .int i_textSteps, v_other, .int i_otherSize, v_piece, .int i_pieceSize, .int i_at, .int i_end, .int i_value]))] s.heap.size = A at hD ⊢
  have hA : ∀ q : Nat, s.heap.size ≤ q → A q := fun q h => by rw [← hAe]; exact Or.inr h
  have hS : va_S A s.heap s.heap [] := va_S.rf
  have hP : va_P (dC, dI) vwCl [(h0, .inr (7, [.int i_thrown, .int 0, .int i_lasts, v_buffer, .int i_size, .int 0, v_gone, v_first, v_many, v_lengths, v_authors, v_sums, v_row, v_made, .int i_madeSize, v_base, .int i_baseSize, v_text, .int i_textSize, .int i_textSteps, v_other, .int i_otherSize, v_piece, .int i_pieceSize, .int i_at, .int i_end, .int i_value]))] s.heap := hP
  have hl := lv_entry ([.ref h0, .int a1]) (n := 3) (Nat.le_of_ble_eq_true rfl)
  rw [lg_entry_eq]
  generalize (lg_sl ([.ref h0, .int a1]) ++ List.replicate (3 - (lg_sl ([.ref h0, .int a1])).length) Slot.unset).toArray = ls at hl ⊢
  have hl : lv_has ls 3 [(0, .ref h0), (1, .int a1)] := hl
  refine lv_aload_n hx hb d_O_verify_0 rfl (lv_at hl 0 rfl) ?_
  refine lv_iconst (v := 1) hx hb d_O_verify_1 (by decide) ?_
  have hPc := hP.sub (ws' := [(h0, .inr (7, [.int i_thrown, .int 0, .int i_lasts, v_buffer, .int i_size, .int 0, v_gone, v_first, v_many, v_lengths, v_authors, v_sums, v_row, v_made, .int i_madeSize, v_base, .int i_baseSize, v_text, .int i_textSize, .int i_textSteps, v_other, .int i_otherSize, v_piece, .int i_pieceSize, .int i_at, .int i_end, .int i_value]))]) [0] rfl
  have hKc := hK.sub (tys' := []) [] rfl
  have hDc := hD.sub (ws' := [(h0, .inr (7, [.int i_thrown, .int 0, .int i_lasts, v_buffer, .int i_size, .int 0, v_gone, v_first, v_many, v_lengths, v_authors, v_sums, v_row, v_made, .int i_madeSize, v_base, .int i_baseSize, v_text, .int i_textSize, .int i_textSteps, v_other, .int i_otherSize, v_piece, .int i_pieceSize, .int i_at, .int i_end, .int i_value]))]) [0] (by decide) rfl
  have hFc := va_free (wc := [(h0, .inr (7, [.int i_thrown, .int 0, .int i_lasts, v_buffer, .int i_size, .int 0, v_gone, v_first, v_many, v_lengths, v_authors, v_sums, v_row, v_made, .int i_madeSize, v_base, .int i_baseSize, v_text, .int i_textSize, .int i_textSteps, v_other, .int i_otherSize, v_piece, .int i_pieceSize, .int i_at, .int i_end, .int i_value]))]) hD hS hA [0] rfl
  refine va_calli (va_runV (As := [.int 1]) (rest := []) ⟨hx, hb, hml, hown, hw0⟩ (m_runs l dC dI s.heap.size h0 i_thrown i_lasts v_buffer i_size 0 v_gone v_first v_many v_lengths v_authors v_sums v_row v_made i_madeSize v_base i_baseSize v_text i_textSize i_textSteps v_other i_otherSize v_piece i_pieceSize i_at i_end i_value 1) (cwV 1 hw0 (gd_V 176 177 178 173 179 rfl rfl rfl rfl rfl) rfl rfl rfl (by decide +kernel) ⟨by decide +kernel, by decide +kernel⟩) (prV_E hPc hKc hDc hN (va_recv hKc hPc (ci := 7) (q0 := 0) rfl rfl)) rfl rfl hl.1 rfl (lv_room (Nat.le_of_ble_eq_true rfl)) d_O_verify_2 ⟨by decide +kernel, by decide +kernel⟩) hS (fun q _ h => hFc q h) hFc (fun r_1 u t H1 locs ht hvm hw hB hz1 hk1 hS => ?_)
  obtain ⟨hP1, hK1, hD1⟩ := hB
  rw [ht] at hP1
  have hK1 := va_K.moved hvm.symm hK1
  try dsimp only at hw
  obtain ⟨hP, hD⟩ := va_join (wr := []) (w1 := [(h0, .inr (7, [.int 0, .int 0, .int i_lasts, v_buffer, .int i_size, .int 0, v_gone, v_first, v_many, v_lengths, v_authors, v_sums, v_row, v_made, .int i_madeSize, v_base, .int i_baseSize, v_text, .int i_textSize, .int i_textSteps, v_other, .int i_otherSize, v_piece, .int i_pieceSize, .int i_at, .int i_end, .int i_value]))]) hP hD [0] [] rfl rfl (by decide) (by decide) hk1 hFc hP1 hD1
  generalize H1 = H at hP hS ⊢
  replace hP : va_P (dC, dI) vwCl [(h0, .inr (7, [.int 0, .int 0, .int i_lasts, v_buffer, .int i_size, .int 0, v_gone, v_first, v_many, v_lengths, v_authors, v_sums, v_row, v_made, .int i_madeSize, v_base, .int i_baseSize, v_text, .int i_textSize, .int i_textSteps, v_other, .int i_otherSize, v_piece, .int i_pieceSize, .int i_at, .int i_end, .int i_value]))] H := hP
  replace hD : va_D A [(h0, .inr (7, [.int 0, .int 0, .int i_lasts, v_buffer, .int i_size, .int 0, v_gone, v_first, v_many, v_lengths, v_authors, v_sums, v_row, v_made, .int i_madeSize, v_base, .int i_baseSize, v_text, .int i_textSize, .int i_textSteps, v_other, .int i_otherSize, v_piece, .int i_pieceSize, .int i_at, .int i_end, .int i_value]))] := hD
  replace hK : va_K (dC, dI) vwCl [] s := hK
  obtain rfl : r_1 = 1 := hw
  refine lv_if_ne (tgt := 10) hx hb d_O_verify_5 (by decide) (fun _ => ?_) (fun h9 => absurd h9 (by decide +kernel))
  refine lv_iconst (v := 0) hx hb d_O_verify_10 (by decide) ?_
  refine lv_istore_n (lv' := [(2, .int 0), (0, .ref h0), (1, .int a1)]) hx hb d_O_verify_11 rfl hl (by decide) rfl (fun ls hl => ?_)
  have hP8 := hP.sub (ws' := [(h0, .inr (7, [.int 0, .int 0, .int i_lasts, v_buffer, .int i_size, .int 0, v_gone, v_first, v_many, v_lengths, v_authors, v_sums, v_row, v_made, .int i_madeSize, v_base, .int i_baseSize, v_text, .int i_textSize, .int i_textSteps, v_other, .int i_otherSize, v_piece, .int i_pieceSize, .int i_at, .int i_end, .int i_value]))]) [0] rfl
  have hD8 := hD.sub (ws' := [(h0, .inr (7, [.int 0, .int 0, .int i_lasts, v_buffer, .int i_size, .int 0, v_gone, v_first, v_many, v_lengths, v_authors, v_sums, v_row, v_made, .int i_madeSize, v_base, .int i_baseSize, v_text, .int i_textSize, .int i_textSteps, v_other, .int i_otherSize, v_piece, .int i_pieceSize, .int i_at, .int i_end, .int i_value]))]) [0] (by decide) rfl
  have hK8 := hK.sub (tys' := []) [] rfl
  refine lp_verify h0 i_lasts (v_buffer) i_size (v_gone) (v_first) (v_many) (v_lengths) (v_authors) (v_sums) (v_row) (v_made) i_madeSize (v_base) i_baseSize (v_text) i_textSize i_textSteps (v_other) i_otherSize (v_piece) i_pieceSize i_at i_end i_value a1 hx hb hml hown hw0 hN hK8 hA (fun H locs hP hD hS ls hl => ?_) 65 0 (by decide) (by decide) _ _ hP8 hD8 hS ls (lv_sub hl [0, 1, 2] rfl)
  refine lv_iconst (v := (-1)) hx hb d_O_verify_70 (by decide) ?_
  have hP9 := hP.sub (ws' := [(h0, .inr (7, [.int 0, .int 0, .int i_lasts, v_buffer, .int i_size, .int 0, v_gone, v_first, v_many, v_lengths, v_authors, v_sums, v_row, v_made, .int i_madeSize, v_base, .int i_baseSize, v_text, .int i_textSize, .int i_textSteps, v_other, .int i_otherSize, v_piece, .int i_pieceSize, .int i_at, .int i_end, .int i_value]))]) [0] rfl
  have hD9 := hD.sub (ws' := [(h0, .inr (7, [.int 0, .int 0, .int i_lasts, v_buffer, .int i_size, .int 0, v_gone, v_first, v_many, v_lengths, v_authors, v_sums, v_row, v_made, .int i_madeSize, v_base, .int i_baseSize, v_text, .int i_textSize, .int i_textSteps, v_other, .int i_otherSize, v_piece, .int i_pieceSize, .int i_at, .int i_end, .int i_value]))]) [0] (by decide) rfl
  have hK9 := hK.sub (tys' := []) [] rfl
  exact W.iret (v := (-1)) hx hb hr (fun t ht hW => ⟨⟨(-1), (), rfl, rfl, by rw [ht]; exact hP9, va_K.moved hW.alike hK9, hD9⟩, hS.F ht⟩) hS.2.2 d_O_verify_71
end
section

section VXA

def vx_T (XC : String → State → State → Prop) (st : State) (q : Addr) (t : State) (mc ms : Nat) (free : Addr → Prop) : Prop :=
  ∃ (E : String) (ce : Cell) (L : List Loc), XC E st t ∧ t.heap[q]? = some ce ∧ ce.vm = .none ∧ st.vm.findClass E = some ce.cls ∧ st.WarmedH t.vm ∧ st.sameButNew ({ t with vm := st.vm } : State) L mc ms ∧ ∀ z ∈ L, free z.base
def vx_Q (Qc : Array Value → State → Outcome → State → Prop) (XC : String → State → State → Prop) (mc ms : Nat) (free : Addr → Prop) : Array Value → State → Outcome → State → Prop := fun a st o t =>
  (Qc a st o t ∧ ∃ L, FrameEnd st o t L mc ms ∧ ∀ q ∈ L, free q.base) ∨ ∃ q, o = .threw q ∧ vx_T XC st q t mc ms free
def vx_Met (l : Launch) (y : MethodName) (ws : List Cond) (rm : Room) (Pc : Array Value → State → Prop) (Qc : Array Value → State → Outcome → State → Prop) (XC : String → State → State → Prop) (mc ms : Nat) (free : Addr → Prop) : Prop :=
  MetFree l y (headSpec ws rm) Pc (fun _ _ _ _ _ => True) (vx_Q Qc XC mc ms free)
def vx_Post (XC : String → State → State → Prop) (mc ms : Nat) (free : Addr → Prop) : Pt → Array Value → Addr → Pt → Prop := fun A a q B =>
  ∃ (g : JFrame) (mk : MethodId) (t : State) (L : List Loc) (E : String) (ce : Cell), B.U.heap = t.heap ∧ B.U.vm = t.vm ∧ XC E (A.U.calling g mk a) t ∧ t.heap[q]? = some ce ∧ ce.vm = .none ∧ A.U.vm.findClass E = some ce.cls ∧ B.locs = A.locs ++ L ∧ (∀ z ∈ L, free z.base) ∧ B.cells = A.cells + mc ∧ B.slots = A.slots + ms
def vx_Back (l : Launch) (R : Room) (p : Program) (e : Env) (below : List Frame) (s : State) (sargs : Array Value) (y : MethodName) (len W9 : Nat)
    (Pre : Pt → Array Value → Prop) (Post : Pt → Array Value → Option Value → Pt → Prop) (PostX : Pt → Array Value → Addr → Pt → Prop) : Prop :=
  ∀ (m : MethodId) (meth : Method) (c : Code) (A : Pt) (g : JFrame) (ig : Instr) (mk : MethodId) (a : Array Value),
    Stand p l e R s m sargs below meth c A.U A.locs A.cells A.slots → g.method = m → g.locals.size = c.maxLocals → decode c.code g.pc = .ok (ig, len) →
    2 * g.monitorRoom + (g.stack.map fun v => v.category).sum ≤ W9 → A.U.methodNamed? y = some mk → Pre A a →
    (∃ (v : Option Value) (B : Pt), Stand p l e R s m sargs below meth c B.U B.locs B.cells B.slots ∧ Post A a v B ∧
      Steps p.tables e below (doInvoke e (A.U.setTop g) [] mk a).1 (B.U.setTop { g with pc := g.pc + len, stack := v.toList ++ g.stack })) ∨
    (∃ (q : Addr) (B : Pt), Stand p l e R s m sargs below meth c B.U B.locs B.cells B.slots ∧ PostX A a q B ∧
      Steps p.tables e below (doInvoke e (A.U.setTop g) [] mk a).1 ((B.U.setTop g).pushFrame (.throwing q)))
section Payer
variable {l : Launch} {R : Room} {p : Program} {e : Env} {below : List Frame} {s : State} {sargs : Array Value} {y : MethodName} {len W9 : Nat}
theorem vx_back {ws : List Cond} {rm : Room} {Pc : Array Value → State → Prop} {Qc : Array Value → State → Outcome → State → Prop} {XC : String → State → State → Prop} {mc ms : Nat} {free : Addr → Prop} {bytes : ByteArray} {maxL : Nat} {ret : Option FieldType}
    (hM : vx_Met l y ws rm Pc Qc XC mc ms free) (hblind : FrameBlind Pc) (hrc : rm.cells = mc) (hrs : rm.slots = ms)
    (hframes : rm.frames + 1 ≤ R.frames) (hlocals : W9 + (maxL + 11) + rm.locals ≤ R.locals)
    (hws : ∀ w ∈ ws, ∀ a' U, s.WarmedH U.vm → w.before a' U = true) (hcode : Cond.code y bytes maxL ret ∈ ws) (hinit : ∀ a' U, s.WarmedH U.vm → (Cond.initialized y.cls).before a' U = true) :
    vx_Back l R p e below s sargs y len W9 (PreOf R mc ms Pc) (PostOf Qc mc ms free) (vx_Post XC mc ms free) := by
  intro m meth c A g ig mk a X hg hsize hdg hW hn hp
  have h1 : (headSpec ws rm).pre.before a A.U = true := atoms_intro fun w hw => hws w hw _ _ X.warmed
  have h2 : (Cond.code y bytes maxL ret).before a A.U = true := hws _ hcode _ _ X.warmed
  have h3 : (Cond.initialized y.cls).before a A.U = true := hinit _ _ X.warmed
  have h4 : A.cells + (headSpec ws rm).room.cells ≤ R.cells := by rw [show (headSpec ws rm).room.cells = mc from hrc]; exact hp.1
  have h5 : A.slots + (headSpec ws rm).room.slots ≤ R.slots := by rw [show (headSpec ws rm).room.slots = ms from hrs]; exact hp.2.1
  have hPc : Pc a (A.U.calling g mk a) := hblind _ _ _ _ hp.2.2
  obtain ⟨U, Ls, c0, s0⟩ := A
  dsimp only [Pt.U, Pt.locs, Pt.cells, Pt.slots] at h1 h2 h3 h4 h5 X hn hPc ⊢
  obtain ⟨methY, cY, hmY, hcY, -, hlY, -, -, -, -⟩ := Cond.code_spec hn h2
  obtain ⟨kY, hkY, -⟩ := className_of_methodNamed hn
  have hinitY : kY.init = .initialized := Cond.initialized_spec (findClass_of_methodNamed hn) hkY h3
  have h : At U g.method c below := by rw [hg]; exact X.here
  have hlocals9 : W9 + (maxL + 11) + (headSpec ws rm).room.locals ≤ R.locals := hlocals
  have happ : (headSpec ws rm).appliesLoose y e.platform (U.calling g mk a) = true :=
    Spec.appliesLoose_calling (g := g) h hdg hn hkY hinitY
      (X.room_calling (g := g) (R' := (headSpec ws rm).room) hsize hmY hcY hframes (by rw [hlY]; omega) h4 h5) h1
  obtain ⟨mid, hmid⟩ := h.above
  have hfr : (U.setTop g).frames = (.java g :: mid) ++ below := by rw [State.frames_setTop' g h.top, hmid]; rfl
  obtain ⟨o, s₂, hsteps, -, hend, hq⟩ := Steps.callFree hM p X.admits X.cas X.clock (acts := []) hfr happ hPc trivial
  have hq' : vx_Q Qc XC mc ms free a (U.calling g mk a) o s₂ := hq
  rw [State.frames_setTop' g h.top] at hend
  obtain ⟨g₀, hg0⟩ := Option.isSome_iff_exists.mp h.top
  obtain ⟨r, hr⟩ := State.topJava?_eq_some.mp hg0
  have hr' : (({ U with heap := s₂.heap, slotsUsed := s₂.slotsUsed } : State).setVm s₂.vm).frames = .java g₀ :: r := hr
  rcases hq' with ⟨hqc, L, hfe, hL⟩ | ⟨q, rfl, E, ce, L, hx, hce, hcv, hcl, hW₂, hsm, hL⟩
  · obtain ⟨⟨v, rfl⟩, hW₂, e2, q2, q3, q4, q5, q6⟩ := id hfe
    have e3 : s₂ = ({ (U.calling g mk a).setFrames s₂.frames with heap := s₂.heap, slotsUsed := s₂.slotsUsed } : State).setVm s₂.vm := by
      have : s₂ = ({ s₂ with vm := (U.calling g mk a).vm } : State).setVm s₂.vm := rfl
      rw [e2] at this
      exact this
    obtain ⟨c₂, i₂, len₂, hc₂, hd₂, hf₂⟩ := hend
    have hW' : U.WarmedH s₂.vm := hW₂
    have hcc : c₂ = c := by
      have h1 : s₂.code? g.method = U.code? g.method := by
        rw [State.code?_eq, State.code?_eq, hW'.alike.method?]
      exact Option.some.inj (hc₂.symm.trans (h1.trans h.code))
    subst hcc
    have hlen : len₂ = len := by rw [hdg] at hd₂; cases hd₂; rfl
    subst hlen
    have hs₂ : s₂ = (({ U with heap := s₂.heap, slotsUsed := s₂.slotsUsed } : State).setVm s₂.vm).setTop { g with pc := g.pc + len₂, stack := v.toList ++ g.stack } := by
      refine e3.trans ?_
      rw [hf₂, State.calling_eq h.top, State.setFrames_setFrames, State.setTop_of_frames _ hr', hr]
      rfl
    have hsame : U.sameButNew ({ U with heap := s₂.heap, slotsUsed := s₂.slotsUsed } : State) L mc ms := by
      refine ⟨?_, q2, q3, q4, q5, q6⟩
      obtain ⟨t, ht, -⟩ := State.frames_cons hr
      show ({ U with heap := s₂.heap, slotsUsed := s₂.slotsUsed } : State) = { U.setFrames U.frames with heap := s₂.heap, slotsUsed := s₂.slotsUsed }
      rw [State.setFrames_self ht]
    subst hg
    refine Or.inl ⟨v, ⟨(({ U with heap := s₂.heap, slotsUsed := s₂.slotsUsed } : State).setVm s₂.vm), Ls ++ L, c0 + mc, s0 + ms⟩,
      ⟨X.admits, X.cas, X.clock, X.frames, X.room, X.hears, X.method, X.code, (X.here.setHeapUsed s₂.heap s₂.slotsUsed).setVm hW'.alike, X.tail, State.WarmedH.trans X.warmed hW', X.limits, X.bytes, X.same.trans (hsame.setVm s.vm)⟩,
      ⟨g, mk, s₂, L, rfl, rfl, hqc, rfl, hL, rfl, rfl⟩, ?_⟩
    show Steps p.tables e below _ ((({ U with heap := s₂.heap, slotsUsed := s₂.slotsUsed } : State).setVm s₂.vm).setTop { g with pc := g.pc + len₂, stack := v.toList ++ g.stack })
    rw [← hs₂]
    exact hsteps
  · obtain ⟨e2, q2, q3, q4, q5, q6⟩ := id hsm
    have e3 : s₂ = ({ (U.calling g mk a).setFrames s₂.frames with heap := s₂.heap, slotsUsed := s₂.slotsUsed } : State).setVm s₂.vm := by
      have : s₂ = ({ s₂ with vm := (U.calling g mk a).vm } : State).setVm s₂.vm := rfl
      rw [e2] at this
      exact this
    have hf₂ : s₂.frames = .throwing q :: .java g :: U.frames.tail := hend
    have hW' : U.WarmedH s₂.vm := hW₂
    have hs₂ : s₂ = ((({ U with heap := s₂.heap, slotsUsed := s₂.slotsUsed } : State).setVm s₂.vm).setTop g).pushFrame (.throwing q) := by
      refine e3.trans ?_
      rw [hf₂, State.calling_eq h.top, State.setFrames_setFrames, State.pushFrame, State.frames_setTop _ hr', State.setTop_of_frames _ hr', State.setFrames_setFrames, hr]
      rfl
    have hsame : U.sameButNew ({ U with heap := s₂.heap, slotsUsed := s₂.slotsUsed } : State) L mc ms := by
      refine ⟨?_, q2, q3, q4, q5, q6⟩
      obtain ⟨t, ht, -⟩ := State.frames_cons hr
      show ({ U with heap := s₂.heap, slotsUsed := s₂.slotsUsed } : State) = { U.setFrames U.frames with heap := s₂.heap, slotsUsed := s₂.slotsUsed }
      rw [State.setFrames_self ht]
    subst hg
    refine Or.inr ⟨q, ⟨(({ U with heap := s₂.heap, slotsUsed := s₂.slotsUsed } : State).setVm s₂.vm), Ls ++ L, c0 + mc, s0 + ms⟩,
      ⟨X.admits, X.cas, X.clock, X.frames, X.room, X.hears, X.method, X.code, (X.here.setHeapUsed s₂.heap s₂.slotsUsed).setVm hW'.alike, X.tail, State.WarmedH.trans X.warmed hW', X.limits, X.bytes, X.same.trans (hsame.setVm s.vm)⟩,
      ⟨g, mk, s₂, L, E, ce, rfl, rfl, hx, hce, hcv, hcl, rfl, hL, rfl, rfl⟩, ?_⟩
    show Steps p.tables e below _ (((({ U with heap := s₂.heap, slotsUsed := s₂.slotsUsed } : State).setVm s₂.vm).setTop g).pushFrame (.throwing q))
    rw [← hs₂]
    exact hsteps
end Payer
section Calls
variable {p : Program} {l : Launch} {e : Env} {R : Room} {s : State} {m : MethodId} {args : Array Value} {below : List Frame} {meth : Method} {c : Code} {T : State} {locs : List Loc} {cells slots : Nat}
theorem vx_callV (X : Stand p l e R s m args below meth c T locs cells slots) (hexec : p.tables.exec = Jvm.exec) {own C : String} {index : Nat} {y : MethodName} {bytes : ByteArray} {maxL : Nat} {ret : Option FieldType}
    (hown : s.vm.findClass own = some m.cls) (hlink : (Cond.methodLink own index y).before args s = true) (hinst : (Cond.instanceMethod y).before args s = true) (hsel : (Cond.selects C y y).before args s = true)
    (hcode : (Cond.code y bytes maxL ret).before args s = true) (hy : y.cls ≠ "java/lang/invoke/MethodHandle" ∧ y.cls ≠ "java/lang/invoke/VarHandle")
    {W9 : Nat} {Pre : Pt → Array Value → Prop} {Post : Pt → Array Value → Option Value → Pt → Prop} {PostX : Pt → Array Value → Addr → Pt → Prop} (hK : vx_Back l R p e below s args y 3 W9 Pre Post PostX)
    {b : Addr} {cellB : Cell} (hcell : T.heap[b]? = some cellB) (hobj : cellB.vm.isStatics = false) (hcls : s.vm.findClass C = some cellB.cls)
    {g : JFrame} (hg : g.method = m) (hsize : g.locals.size = c.maxLocals) {argsL rest : List Value} (hlen : ∀ sig, parseMethodDescriptor y.desc = some sig → argsL.length = sig.parameters.length)
    (hstack : g.stack = argsL.reverse ++ .ref b :: rest) (hW : 2 * g.monitorRoom + (rest.map fun v => v.category).sum ≤ W9) (hdg : decode c.code g.pc = .ok (.invokevirtual index, 3))
    (hpre : ∀ vm₁, s.WarmedH vm₁ → Pre ⟨T.setVm vm₁, locs, cells, slots⟩ (Value.ref b :: argsL).toArray) :
    (∃ (v : Option Value) (vm₁ : Vm) (B : Pt), s.WarmedH vm₁ ∧ Stand p l e R s m args below meth c B.U B.locs B.cells B.slots ∧ Post ⟨T.setVm vm₁, locs, cells, slots⟩ (Value.ref b :: argsL).toArray v B ∧
      ∀ target, Steps p.tables e below (B.U.setTop { g with pc := g.pc + 3, stack := v.toList ++ rest }) target → Steps p.tables e below (T.setTop g) target) ∨
    (∃ (q : Addr) (vm₁ : Vm) (B : Pt), s.WarmedH vm₁ ∧ Stand p l e R s m args below meth c B.U B.locs B.cells B.slots ∧ PostX ⟨T.setVm vm₁, locs, cells, slots⟩ (Value.ref b :: argsL).toArray q B ∧
      Steps p.tables e below (T.setTop g) ((B.U.setTop { g with stack := rest }).pushFrame (.throwing q))) := by
  obtain ⟨mk, methM, hnamed, hmethM, hstM, habM⟩ := Cond.instanceMethod_spec hinst
  obtain ⟨methM', cM, hmethM', -, -, -, -, -, -, hsigM⟩ := Cond.code_spec hnamed hcode
  cases hmethM.symm.trans hmethM'
  obtain ⟨c2, r2, m2, q1, q2, q3, q4, kP, hkP, hkPi⟩ := Cond.selects_spec hsel
  cases hcls.symm.trans q1
  cases (State.methodFound?_of_named hnamed hy).symm.trans q2
  cases hnamed.symm.trans q3
  have hselP : selectMethod e.platform s.vm cellB.cls mk = .method mk := by rw [Launch.admits_selectMethod X.admits]; exact q4
  obtain ⟨vm₁, X₁, hstep₁⟩ := X.invokevirtual hexec hown hlink hnamed hmethM hstM hkP hkPi hy (a := b) (cell := cellB) hcell
    (fun z h => by rw [h] at hobj; cases hobj) hselP hmethM habM hkP hkPi (g := g) hg (argsL := argsL) (rest := rest) (hlen _ hsigM) hstack hdg
  rcases hK m meth c ⟨T.setVm vm₁, locs, cells, slots⟩ { g with stack := rest } (.invokevirtual index) mk (Value.ref b :: argsL).toArray X₁ hg hsize hdg hW (X₁.named hnamed) (hpre vm₁ X₁.warmed) with ⟨v, B, X', hpost, hsteps⟩ | ⟨q, B, X', hpost, hsteps⟩
  · exact Or.inl ⟨v, vm₁, B, X₁.warmed, X', hpost, fun target h => hstep₁ _ fun acts => by rw [doInvoke_state]; exact hsteps.trans h⟩
  · exact Or.inr ⟨q, vm₁, B, X₁.warmed, X', hpost, hstep₁ _ fun acts => by rw [doInvoke_state]; exact hsteps⟩
theorem vx_callS (X : Stand p l e R s m args below meth c T locs cells slots) (hexec : p.tables.exec = Jvm.exec) {own : String} {index : Nat} {y : MethodName} {bytes : ByteArray} {maxL : Nat} {ret : Option FieldType}
    (hown : s.vm.findClass own = some m.cls) (hlink : (Cond.methodLink own index y).before args s = true) (hstat : (Cond.static y).before args s = true) (hinit : (Cond.initialized y.cls).before args s = true)
    (hcode : (Cond.code y bytes maxL ret).before args s = true) (hy : y.cls ≠ "java/lang/invoke/MethodHandle" ∧ y.cls ≠ "java/lang/invoke/VarHandle")
    {W9 : Nat} {Pre : Pt → Array Value → Prop} {Post : Pt → Array Value → Option Value → Pt → Prop} {PostX : Pt → Array Value → Addr → Pt → Prop} (hK : vx_Back l R p e below s args y 3 W9 Pre Post PostX)
    {g : JFrame} (hg : g.method = m) (hsize : g.locals.size = c.maxLocals) {argsL rest : List Value} (hlen : ∀ sig, parseMethodDescriptor y.desc = some sig → argsL.length = sig.parameters.length)
    (hstack : g.stack = argsL.reverse ++ rest) (hW : 2 * g.monitorRoom + (rest.map fun v => v.category).sum ≤ W9) (hdg : decode c.code g.pc = .ok (.invokestatic index, 3))
    (hpre : ∀ vm₁, s.WarmedH vm₁ → Pre ⟨T.setVm vm₁, locs, cells, slots⟩ argsL.toArray) :
    (∃ (v : Option Value) (vm₁ : Vm) (B : Pt), s.WarmedH vm₁ ∧ Stand p l e R s m args below meth c B.U B.locs B.cells B.slots ∧ Post ⟨T.setVm vm₁, locs, cells, slots⟩ argsL.toArray v B ∧
      ∀ target, Steps p.tables e below (B.U.setTop { g with pc := g.pc + 3, stack := v.toList ++ rest }) target → Steps p.tables e below (T.setTop g) target) ∨
    (∃ (q : Addr) (vm₁ : Vm) (B : Pt), s.WarmedH vm₁ ∧ Stand p l e R s m args below meth c B.U B.locs B.cells B.slots ∧ PostX ⟨T.setVm vm₁, locs, cells, slots⟩ argsL.toArray q B ∧
      Steps p.tables e below (T.setTop g) ((B.U.setTop { g with stack := rest }).pushFrame (.throwing q))) := by
  obtain ⟨mk, hnamed⟩ := Cond.code_named hcode
  obtain ⟨methM, cM, hmethM, -, -, -, -, -, -, hsigM⟩ := Cond.code_spec hnamed hcode
  have hstatic : methM.isStatic = true := Cond.static_spec hnamed hmethM hstat
  obtain ⟨kP, hkP, -⟩ := className_of_methodNamed hnamed
  have hinitP : kP.init = .initialized := Cond.initialized_spec (findClass_of_methodNamed hnamed) hkP hinit
  obtain ⟨vm₁, X₁, hstep₁⟩ := X.invokestatic hexec hown hlink hnamed hmethM hstatic hkP hinitP hy (g := g) hg (argsL := argsL) (rest := rest) (hlen _ hsigM) hstack hdg
  rcases hK m meth c ⟨T.setVm vm₁, locs, cells, slots⟩ { g with stack := rest } (.invokestatic index) mk argsL.toArray X₁ hg hsize hdg hW (X₁.named hnamed) (hpre vm₁ X₁.warmed) with ⟨v, B, X', hpost, hsteps⟩ | ⟨q, B, X', hpost, hsteps⟩
  · exact Or.inl ⟨v, vm₁, B, X₁.warmed, X', hpost, fun target h => hstep₁ _ fun acts => by rw [doInvoke_state]; exact hsteps.trans h⟩
  · exact Or.inr ⟨q, vm₁, B, X₁.warmed, X', hpost, hstep₁ _ fun acts => by rw [doInvoke_state]; exact hsteps⟩
end Calls
theorem vx_cls {s : State} {T : State} {vm₁ : Vm} {E : String} {k : ClassId} (hW : s.WarmedH vm₁) (h : (T.setVm vm₁).vm.findClass E = some k) : s.vm.findClass E = some k := by
  have h1 : vm₁.findClass E = some k := h
  rw [hW.alike.findClass] at h1
  exact h1
def vx_W (p : Program) (l : Launch) (e : Env) (R : Room) (s : State) (m : MethodId) (args : Array Value) (below : List Frame) (meth : Method) (c : Code) (H : Heap) (locs : List Loc) (cells slots : Nat) (Q : State → Prop) (g : JFrame) (q : Addr) : Prop :=
  ∀ T : State, T.heap = H → Stand p l e R s m args below meth c T locs cells slots → ∃ t, Steps p.tables e below ((T.setTop g).pushFrame (.throwing q)) t ∧ Q t
def vx_Run (p : Program) (l : Launch) (e : Env) (R : Room) (s : State) (m : MethodId) (args : Array Value) (below : List Frame) (meth : Method) (c : Code) (H : Heap) (locs : List Loc) (cells slots mc ms : Nat) (g : JFrame) (rest : List Value) (Qa : State → Outcome → State → Prop) (XC : String → State → State → Prop) (free : Addr → Prop) : Prop :=
  ∀ T : State, T.heap = H → Stand p l e R s m args below meth c T locs cells slots →
    (∃ (v : Option Value) (st₀ t T' : State) (L : List Loc), st₀.heap = H ∧ Stand p l e R s m args below meth c T' (locs ++ L) (cells + mc) (slots + ms) ∧ (∀ q ∈ L, free q.base) ∧ T'.heap = t.heap ∧ T'.vm = t.vm ∧ Qa st₀ (.returned v) t ∧
      Goes p e below T g T' { g with pc := g.pc + 3, stack := v.toList ++ rest }) ∨
    (∃ (q : Addr) (st₀ t T' : State) (L : List Loc) (E : String) (ce : Cell), st₀.heap = H ∧ Stand p l e R s m args below meth c T' (locs ++ L) (cells + mc) (slots + ms) ∧ (∀ z ∈ L, free z.base) ∧ T'.heap = t.heap ∧ T'.vm = t.vm ∧ XC E st₀ t ∧ t.heap[q]? = some ce ∧ ce.vm = .none ∧ s.vm.findClass E = some ce.cls ∧
      Steps p.tables e below (T.setTop g) ((T'.setTop { g with stack := rest }).pushFrame (.throwing q)))
def vx_X {S : Type} (px : S → Prop) (B : String → S → State → Prop) (A : Nat → Prop) : String → State → State → Prop := fun E st t => ∃ u : S, px u ∧ B E u t ∧ va_F A st t
section Runs
variable {p : Program} {l : Launch} {e : Env} {R : Room} {s : State} {m : MethodId} {args : Array Value} {below : List Frame} {meth : Method} {c : Code} {H : Heap} {locs : List Loc} {cells slots : Nat}
variable {y : MethodName} {bytes cc : ByteArray} {maxL nL mc ms n index : Nat} {ret : Option FieldType} {ws : List Cond} {rm : Room} {Pc : Array Value → State → Prop} {Qc : Array Value → State → Outcome → State → Prop} {XC : String → State → State → Prop} {free : Addr → Prop} {Ts : List Cond} {own C : String} {b : Addr} {As rest : List Value} {g : JFrame}
theorem vx_callBack (cb : CallB R s args own index y bytes maxL ret ws rm mc ms n) (hM : vx_Met l y ws rm Pc Qc XC mc ms free) (hbl : FrameBlind Pc) : vx_Back l R p e below s args y 3 8 (PreOf R mc ms Pc) (PostOf Qc mc ms free) (vx_Post XC mc ms free) := by
  obtain ⟨hrc, hrs, hfr, hlo, hws, hcw, -, hini, -⟩ := cb
  exact vx_back (bytes := bytes) (maxL := maxL) (ret := ret) hM hbl hrc hrs hfr hlo hws hcw (fun a' U hW => word_at hW (Or.inl (by first | rfl | simp [Cond.onTables, Cond.keeps, Cond.steady])) hini)
theorem vx_runV (S : CallFix p m c cc nL s args Ts own) (hM : vx_Met l y ws rm Pc Qc XC mc ms free) (cw : CallW R s args own C index y bytes maxL ret ws rm mc ms n) (hp : PreV s H C b Pc As)
    (hg : g.method = m) (hn : As.length = n) (hsize : g.locals.size = nL) (hstack : g.stack = As.reverse ++ .ref b :: rest) (hW : 2 * g.monitorRoom + (rest.map fun v => v.category).sum ≤ 8) (hdg : decode cc g.pc = .ok (.invokevirtual index, 3)) (hf : cells + mc ≤ R.cells ∧ slots + ms ≤ R.slots) :
    vx_Run p l e R s m args below meth c H locs cells slots mc ms g rest (Qc (Value.ref b :: As).toArray) XC free := by
  have hK : vx_Back l R p e below s args y 3 8 (PreOf R mc ms Pc) (PostOf Qc mc ms free) (vx_Post XC mc ms free) := vx_callBack cw.1 hM hp.1
  obtain ⟨⟨-, -, -, -, -, -, hcode, -, hy, hlen, hl⟩, hin, hse⟩ := cw
  obtain ⟨hx, hb, hml, ho, -⟩ := S
  obtain ⟨-, ⟨cellB, hcB, hoB, hclB⟩, hPc⟩ := hp
  intro T hT X
  rcases vx_callV X hx (C := C) (bytes := bytes) (maxL := maxL) (ret := ret) ho hl hin hse hcode hy hK (by rw [hT]; exact hcB) hoB hclB hg (hsize.trans hml.symm) (argsL := As) (rest := rest) (fun sig h => hn.trans (hlen sig h)) hstack hW (by rw [hb]; exact hdg)
    (fun vm₁ hW₁ => ⟨hf.1, hf.2, hPc (T.setVm vm₁) hT hW₁⟩) with ⟨v, vm₁, ⟨U', l2, c2, s2⟩, hW₁, X', ⟨g', mk, t, L, e1, e2, hq, h1, hL, h2, h3⟩, st⟩ | ⟨q, vm₁, ⟨U', l2, c2, s2⟩, hW₁, X', ⟨g', mk, t, L, E, ce, e1, e2, hq, hce, hcv, hcl, h1, hL, h2, h3⟩, st⟩
  · dsimp only [Pt.U, Pt.locs, Pt.cells, Pt.slots] at X' e1 e2 h1 h2 h3 st
    subst h1; subst h2; subst h3
    exact Or.inl ⟨v, (T.setVm vm₁).calling g' mk (Value.ref b :: As).toArray, t, U', L, hT, X', hL, e1, e2, hq, st⟩
  · dsimp only [Pt.U, Pt.locs, Pt.cells, Pt.slots] at X' e1 e2 h1 h2 h3 st hcl
    subst h1; subst h2; subst h3
    exact Or.inr ⟨q, (T.setVm vm₁).calling g' mk (Value.ref b :: As).toArray, t, U', L, E, ce, hT, X', hL, e1, e2, hq, hce, hcv, vx_cls hW₁ hcl, st⟩
theorem vx_runS (S : CallFix p m c cc nL s args Ts own) (hM : vx_Met l y ws rm Pc Qc XC mc ms free) (cw : CallB R s args own index y bytes maxL ret ws rm mc ms n ∧ (Cond.static y).before args s = true) (hp : PreS s H Pc As)
    (hg : g.method = m) (hn : As.length = n) (hsize : g.locals.size = nL) (hstack : g.stack = As.reverse ++ rest) (hW : 2 * g.monitorRoom + (rest.map fun v => v.category).sum ≤ 8) (hdg : decode cc g.pc = .ok (.invokestatic index, 3)) (hf : cells + mc ≤ R.cells ∧ slots + ms ≤ R.slots) :
    vx_Run p l e R s m args below meth c H locs cells slots mc ms g rest (Qc As.toArray) XC free := by
  have hK : vx_Back l R p e below s args y 3 8 (PreOf R mc ms Pc) (PostOf Qc mc ms free) (vx_Post XC mc ms free) := vx_callBack cw.1 hM hp.1
  obtain ⟨⟨-, -, -, -, -, -, hcode, hini, hy, hlen, hl⟩, hstt⟩ := cw
  obtain ⟨hx, hb, hml, ho, -⟩ := S
  intro T hT X
  rcases vx_callS X hx (bytes := bytes) (maxL := maxL) (ret := ret) ho hl hstt hini hcode hy hK hg (hsize.trans hml.symm) (argsL := As) (rest := rest) (fun sig h => hn.trans (hlen sig h)) hstack hW (by rw [hb]; exact hdg)
    (fun vm₁ hW₁ => ⟨hf.1, hf.2, hp.2 (T.setVm vm₁) hT hW₁⟩) with ⟨v, vm₁, ⟨U', l2, c2, s2⟩, hW₁, X', ⟨g', mk, t, L, e1, e2, hq, h1, hL, h2, h3⟩, st⟩ | ⟨q, vm₁, ⟨U', l2, c2, s2⟩, hW₁, X', ⟨g', mk, t, L, E, ce, e1, e2, hq, hce, hcv, hcl, h1, hL, h2, h3⟩, st⟩
  · dsimp only [Pt.U, Pt.locs, Pt.cells, Pt.slots] at X' e1 e2 h1 h2 h3 st
    subst h1; subst h2; subst h3
    exact Or.inl ⟨v, (T.setVm vm₁).calling g' mk As.toArray, t, U', L, hT, X', hL, e1, e2, hq, st⟩
  · dsimp only [Pt.U, Pt.locs, Pt.cells, Pt.slots] at X' e1 e2 h1 h2 h3 st hcl
    subst h1; subst h2; subst h3
    exact Or.inr ⟨q, (T.setVm vm₁).calling g' mk As.toArray, t, U', L, E, ce, hT, X', hL, e1, e2, hq, hce, hcv, vx_cls hW₁ hcl, st⟩
end Runs
section Rows
variable {p : Program} {l : Launch} {e : Env} {R : Room} {s : State} {m : MethodId} {args : Array Value} {below : List Frame} {meth : Method} {c : Code} {H : Heap} {locs : List Loc} {cells slots : Nat} {Q : State → Prop}
variable {mc ms : Nat} {free : Addr → Prop} {A0 A1 : Nat → Prop} {H0 : Heap} {a : Array Value} {pc : Nat} {ls : Array Slot} {st0 rest : List Value}
theorem vx_keep {st₀ t T' : State} {L : List Loc} (h0 : st₀.heap = H) (e1 : T'.heap = t.heap) (hS : va_S A0 H0 H locs) (hA : ∀ q, q < H.size → A1 q → A0 q) (hf : ∀ q, free q → A0 q) (hL : ∀ q ∈ L, free q.base) (hF : va_F A1 st₀ t) :
    H.size ≤ T'.heap.size ∧ (∀ q : Nat, q < H.size → ¬ A1 q → T'.heap[q]? = H[q]?) ∧ va_S A0 H0 T'.heap (locs ++ L) := by
  obtain ⟨hz, hk⟩ := hF
  rw [h0] at hz hk
  exact ⟨by rw [e1]; exact hz, fun q h1 h2 => by rw [e1]; exact hk q h1 h2,
    ⟨Nat.le_trans hS.1 (by rw [e1]; exact hz), fun q h1 h2 => by rw [e1, hk q (Nat.lt_of_lt_of_le h1 hS.1) (fun z => h2 (hA q (Nat.lt_of_lt_of_le h1 hS.1) z))]; exact hS.2.1 q h1 h2, fun q hq => by
      rcases List.mem_append.mp hq with h | h
      · exact hS.2.2 q h
      · exact hf _ (hL q h)⟩⟩
theorem vx_calli {S SX : Type} {post : Int32 → S → Prop} {px : SX → Prop} {B : S → State → Prop} {BX : String → SX → State → Prop} {AX : Nat → Prop} (hr : vx_Run p l e R s m args below meth c H locs cells slots mc ms (F0 m pc ls st0) rest (va_Qi post B A1 a) (vx_X px BX AX) free) (hS : va_S A0 H0 H locs) (hA : ∀ q, q < H.size → A1 q → A0 q) (hf : ∀ q, free q → A0 q) (hAX : ∀ q, q < H.size → AX q → A0 q)
    (kx : ∀ (E : String) (ce : Cell) (q9 : Addr) (u : SX) (t : State) (H1 : Heap) (locs1 : List Loc), t.heap = H1 → s.vm.Alike t.vm → px u → BX E u t → H.size ≤ H1.size → (∀ q : Nat, q < H.size → ¬ AX q → H1[q]? = H[q]?) → va_S A0 H0 H1 locs1 → H1[q9]? = some ce → ce.vm = .none → s.vm.findClass E = some ce.cls → vx_W p l e R s m args below meth c H1 locs1 (cells + mc) (slots + ms) Q (F0 m pc ls rest) q9)
    (kk : ∀ (r : Int32) (u : S) (t : State) (H1 : Heap) (locs1 : List Loc), t.heap = H1 → s.vm.Alike t.vm → post r u → B u t → H.size ≤ H1.size → (∀ q : Nat, q < H.size → ¬ A1 q → H1[q]? = H[q]?) → va_S A0 H0 H1 locs1 → W p l e R s m args below meth c H1 locs1 (cells + mc) (slots + ms) Q (F0 m (pc + 3) ls (.int r :: rest))) : W p l e R s m args below meth c H locs cells slots Q (F0 m pc ls st0) := by
  intro T hT X
  rcases hr T hT X with ⟨v, st₀, t, T', L, h0, X', hL, e1, e2, ⟨⟨r, u, hv, hp, hb⟩, hF⟩, st⟩ | ⟨q, st₀, t, T', L, E, ce, h0, X', hL, e1, e2, ⟨u, hp, hb, hF⟩, hce, hcv, hcl, st⟩
  · cases hv
    obtain ⟨k1, k2, k3⟩ := vx_keep h0 e1 hS hA hf hL hF
    obtain ⟨t2, a1, b1⟩ := kk r u t T'.heap (locs ++ L) e1.symm (by rw [← e2]; exact X'.warmed.alike) hp hb k1 k2 k3 T' rfl X'
    exact ⟨t2, st t2 a1, b1⟩
  · obtain ⟨k1, k2, k3⟩ := vx_keep h0 e1 hS hAX hf hL hF
    obtain ⟨t2, a1, b1⟩ := kx E ce q u t T'.heap (locs ++ L) e1.symm (by rw [← e2]; exact X'.warmed.alike) hp hb k1 k2 k3 (by rw [e1]; exact hce) hcv hcl T' rfl X'
    exact ⟨t2, st.trans a1, b1⟩
theorem vx_calll {S SX : Type} {post : Int64 → S → Prop} {px : SX → Prop} {B : S → State → Prop} {BX : String → SX → State → Prop} {AX : Nat → Prop} (hr : vx_Run p l e R s m args below meth c H locs cells slots mc ms (F0 m pc ls st0) rest (va_Ql post B A1 a) (vx_X px BX AX) free) (hS : va_S A0 H0 H locs) (hA : ∀ q, q < H.size → A1 q → A0 q) (hf : ∀ q, free q → A0 q) (hAX : ∀ q, q < H.size → AX q → A0 q)
    (kx : ∀ (E : String) (ce : Cell) (q9 : Addr) (u : SX) (t : State) (H1 : Heap) (locs1 : List Loc), t.heap = H1 → s.vm.Alike t.vm → px u → BX E u t → H.size ≤ H1.size → (∀ q : Nat, q < H.size → ¬ AX q → H1[q]? = H[q]?) → va_S A0 H0 H1 locs1 → H1[q9]? = some ce → ce.vm = .none → s.vm.findClass E = some ce.cls → vx_W p l e R s m args below meth c H1 locs1 (cells + mc) (slots + ms) Q (F0 m pc ls rest) q9)
    (kk : ∀ (r : Int64) (u : S) (t : State) (H1 : Heap) (locs1 : List Loc), t.heap = H1 → s.vm.Alike t.vm → post r u → B u t → H.size ≤ H1.size → (∀ q : Nat, q < H.size → ¬ A1 q → H1[q]? = H[q]?) → va_S A0 H0 H1 locs1 → W p l e R s m args below meth c H1 locs1 (cells + mc) (slots + ms) Q (F0 m (pc + 3) ls (.long r :: rest))) : W p l e R s m args below meth c H locs cells slots Q (F0 m pc ls st0) := by
  intro T hT X
  rcases hr T hT X with ⟨v, st₀, t, T', L, h0, X', hL, e1, e2, ⟨⟨r, u, hv, hp, hb⟩, hF⟩, st⟩ | ⟨q, st₀, t, T', L, E, ce, h0, X', hL, e1, e2, ⟨u, hp, hb, hF⟩, hce, hcv, hcl, st⟩
  · cases hv
    obtain ⟨k1, k2, k3⟩ := vx_keep h0 e1 hS hA hf hL hF
    obtain ⟨t2, a1, b1⟩ := kk r u t T'.heap (locs ++ L) e1.symm (by rw [← e2]; exact X'.warmed.alike) hp hb k1 k2 k3 T' rfl X'
    exact ⟨t2, st t2 a1, b1⟩
  · obtain ⟨k1, k2, k3⟩ := vx_keep h0 e1 hS hAX hf hL hF
    obtain ⟨t2, a1, b1⟩ := kx E ce q u t T'.heap (locs ++ L) e1.symm (by rw [← e2]; exact X'.warmed.alike) hp hb k1 k2 k3 (by rw [e1]; exact hce) hcv hcl T' rfl X'
    exact ⟨t2, st.trans a1, b1⟩
theorem vx_callf {S SX : Type} {post : UInt32 → S → Prop} {px : SX → Prop} {B : S → State → Prop} {BX : String → SX → State → Prop} {AX : Nat → Prop} (hr : vx_Run p l e R s m args below meth c H locs cells slots mc ms (F0 m pc ls st0) rest (va_Qf post B A1 a) (vx_X px BX AX) free) (hS : va_S A0 H0 H locs) (hA : ∀ q, q < H.size → A1 q → A0 q) (hf : ∀ q, free q → A0 q) (hAX : ∀ q, q < H.size → AX q → A0 q)
    (kx : ∀ (E : String) (ce : Cell) (q9 : Addr) (u : SX) (t : State) (H1 : Heap) (locs1 : List Loc), t.heap = H1 → s.vm.Alike t.vm → px u → BX E u t → H.size ≤ H1.size → (∀ q : Nat, q < H.size → ¬ AX q → H1[q]? = H[q]?) → va_S A0 H0 H1 locs1 → H1[q9]? = some ce → ce.vm = .none → s.vm.findClass E = some ce.cls → vx_W p l e R s m args below meth c H1 locs1 (cells + mc) (slots + ms) Q (F0 m pc ls rest) q9)
    (kk : ∀ (r : UInt32) (u : S) (t : State) (H1 : Heap) (locs1 : List Loc), t.heap = H1 → s.vm.Alike t.vm → post r u → B u t → H.size ≤ H1.size → (∀ q : Nat, q < H.size → ¬ A1 q → H1[q]? = H[q]?) → va_S A0 H0 H1 locs1 → W p l e R s m args below meth c H1 locs1 (cells + mc) (slots + ms) Q (F0 m (pc + 3) ls (.float r :: rest))) : W p l e R s m args below meth c H locs cells slots Q (F0 m pc ls st0) := by
  intro T hT X
  rcases hr T hT X with ⟨v, st₀, t, T', L, h0, X', hL, e1, e2, ⟨⟨r, u, hv, hp, hb⟩, hF⟩, st⟩ | ⟨q, st₀, t, T', L, E, ce, h0, X', hL, e1, e2, ⟨u, hp, hb, hF⟩, hce, hcv, hcl, st⟩
  · cases hv
    obtain ⟨k1, k2, k3⟩ := vx_keep h0 e1 hS hA hf hL hF
    obtain ⟨t2, a1, b1⟩ := kk r u t T'.heap (locs ++ L) e1.symm (by rw [← e2]; exact X'.warmed.alike) hp hb k1 k2 k3 T' rfl X'
    exact ⟨t2, st t2 a1, b1⟩
  · obtain ⟨k1, k2, k3⟩ := vx_keep h0 e1 hS hAX hf hL hF
    obtain ⟨t2, a1, b1⟩ := kx E ce q u t T'.heap (locs ++ L) e1.symm (by rw [← e2]; exact X'.warmed.alike) hp hb k1 k2 k3 (by rw [e1]; exact hce) hcv hcl T' rfl X'
    exact ⟨t2, st.trans a1, b1⟩
theorem vx_calld {S SX : Type} {post : UInt64 → S → Prop} {px : SX → Prop} {B : S → State → Prop} {BX : String → SX → State → Prop} {AX : Nat → Prop} (hr : vx_Run p l e R s m args below meth c H locs cells slots mc ms (F0 m pc ls st0) rest (va_Qd post B A1 a) (vx_X px BX AX) free) (hS : va_S A0 H0 H locs) (hA : ∀ q, q < H.size → A1 q → A0 q) (hf : ∀ q, free q → A0 q) (hAX : ∀ q, q < H.size → AX q → A0 q)
    (kx : ∀ (E : String) (ce : Cell) (q9 : Addr) (u : SX) (t : State) (H1 : Heap) (locs1 : List Loc), t.heap = H1 → s.vm.Alike t.vm → px u → BX E u t → H.size ≤ H1.size → (∀ q : Nat, q < H.size → ¬ AX q → H1[q]? = H[q]?) → va_S A0 H0 H1 locs1 → H1[q9]? = some ce → ce.vm = .none → s.vm.findClass E = some ce.cls → vx_W p l e R s m args below meth c H1 locs1 (cells + mc) (slots + ms) Q (F0 m pc ls rest) q9)
    (kk : ∀ (r : UInt64) (u : S) (t : State) (H1 : Heap) (locs1 : List Loc), t.heap = H1 → s.vm.Alike t.vm → post r u → B u t → H.size ≤ H1.size → (∀ q : Nat, q < H.size → ¬ A1 q → H1[q]? = H[q]?) → va_S A0 H0 H1 locs1 → W p l e R s m args below meth c H1 locs1 (cells + mc) (slots + ms) Q (F0 m (pc + 3) ls (.double r :: rest))) : W p l e R s m args below meth c H locs cells slots Q (F0 m pc ls st0) := by
  intro T hT X
  rcases hr T hT X with ⟨v, st₀, t, T', L, h0, X', hL, e1, e2, ⟨⟨r, u, hv, hp, hb⟩, hF⟩, st⟩ | ⟨q, st₀, t, T', L, E, ce, h0, X', hL, e1, e2, ⟨u, hp, hb, hF⟩, hce, hcv, hcl, st⟩
  · cases hv
    obtain ⟨k1, k2, k3⟩ := vx_keep h0 e1 hS hA hf hL hF
    obtain ⟨t2, a1, b1⟩ := kk r u t T'.heap (locs ++ L) e1.symm (by rw [← e2]; exact X'.warmed.alike) hp hb k1 k2 k3 T' rfl X'
    exact ⟨t2, st t2 a1, b1⟩
  · obtain ⟨k1, k2, k3⟩ := vx_keep h0 e1 hS hAX hf hL hF
    obtain ⟨t2, a1, b1⟩ := kx E ce q u t T'.heap (locs ++ L) e1.symm (by rw [← e2]; exact X'.warmed.alike) hp hb k1 k2 k3 (by rw [e1]; exact hce) hcv hcl T' rfl X'
    exact ⟨t2, st.trans a1, b1⟩
theorem vx_callv {S SX : Type} {post : S → Prop} {px : SX → Prop} {B : S → State → Prop} {BX : String → SX → State → Prop} {AX : Nat → Prop} (hr : vx_Run p l e R s m args below meth c H locs cells slots mc ms (F0 m pc ls st0) rest (va_Qv post B A1 a) (vx_X px BX AX) free) (hS : va_S A0 H0 H locs) (hA : ∀ q, q < H.size → A1 q → A0 q) (hf : ∀ q, free q → A0 q) (hAX : ∀ q, q < H.size → AX q → A0 q)
    (kx : ∀ (E : String) (ce : Cell) (q9 : Addr) (u : SX) (t : State) (H1 : Heap) (locs1 : List Loc), t.heap = H1 → s.vm.Alike t.vm → px u → BX E u t → H.size ≤ H1.size → (∀ q : Nat, q < H.size → ¬ AX q → H1[q]? = H[q]?) → va_S A0 H0 H1 locs1 → H1[q9]? = some ce → ce.vm = .none → s.vm.findClass E = some ce.cls → vx_W p l e R s m args below meth c H1 locs1 (cells + mc) (slots + ms) Q (F0 m pc ls rest) q9)
    (kk : ∀ (u : S) (t : State) (H1 : Heap) (locs1 : List Loc), t.heap = H1 → s.vm.Alike t.vm → post u → B u t → H.size ≤ H1.size → (∀ q : Nat, q < H.size → ¬ A1 q → H1[q]? = H[q]?) → va_S A0 H0 H1 locs1 → W p l e R s m args below meth c H1 locs1 (cells + mc) (slots + ms) Q (F0 m (pc + 3) ls (rest))) : W p l e R s m args below meth c H locs cells slots Q (F0 m pc ls st0) := by
  intro T hT X
  rcases hr T hT X with ⟨v, st₀, t, T', L, h0, X', hL, e1, e2, ⟨⟨u, hv, hp, hb⟩, hF⟩, st⟩ | ⟨q, st₀, t, T', L, E, ce, h0, X', hL, e1, e2, ⟨u, hp, hb, hF⟩, hce, hcv, hcl, st⟩
  · cases hv
    obtain ⟨k1, k2, k3⟩ := vx_keep h0 e1 hS hA hf hL hF
    obtain ⟨t2, a1, b1⟩ := kk u t T'.heap (locs ++ L) e1.symm (by rw [← e2]; exact X'.warmed.alike) hp hb k1 k2 k3 T' rfl X'
    exact ⟨t2, st t2 a1, b1⟩
  · obtain ⟨k1, k2, k3⟩ := vx_keep h0 e1 hS hAX hf hL hF
    obtain ⟨t2, a1, b1⟩ := kx E ce q u t T'.heap (locs ++ L) e1.symm (by rw [← e2]; exact X'.warmed.alike) hp hb k1 k2 k3 (by rw [e1]; exact hce) hcv hcl T' rfl X'
    exact ⟨t2, st.trans a1, b1⟩
theorem vx_catch {own name : String} {E : String} {ce : Cell} {q : Addr} (hown : s.vm.findClass own = some m.cls) (pre : List ExceptionTableEntry) (x : ExceptionTableEntry) (suf : List ExceptionTableEntry) (hsplit : c.exceptionTable.toList = pre ++ x :: suf)
    (hpass : ∀ z ∈ pre, covers z pc = false ∨ (z.catchType ≠ 0 ∧ ∃ nm : String, (Cond.classLink own z.catchType nm).before args s = true ∧ va_Nc E nm s)) (hx : covers x pc = true) (h0 : x.catchType ≠ 0)
    (hlink : (Cond.classLink own x.catchType name).before args s = true) (hcast : (Cond.castable E name).before args s = true) (hcell : H[q]? = some ce) (hv : ce.vm = .none) (hcl : s.vm.findClass E = some ce.cls)
    (kk : W p l e R s m args below meth c H locs cells slots Q (F0 m x.handlerPc ls [.ref q])) : vx_W p l e R s m args below meth c H locs cells slots Q (F0 m pc ls rest) q := by
  intro T hT X
  have hpl : e.platform.magicAccessors = ({} : Platform).magicAccessors := by rw [X.admits.platform]
  obtain ⟨c3, c4, hc3, hc4, hasg⟩ := Cond.castable_spec hcast
  cases Option.some.inj (hc3.symm.trans hcl)
  obtain ⟨c5, hc5, hcl5⟩ := Cond.classLink_spec hown hlink e.platform hpl
  cases Option.some.inj (hc4.symm.trans hc5)
  obtain ⟨vm', X', st⟩ := X.thenCaughtThrough q (g := F0 m pc ls rest) rfl (Steps.refl _) (by rw [hT]; exact hcell) (by rw [hv]; rfl) (by obtain ⟨k9, h9, -⟩ := Vm.findClass_spec hcl; exact ⟨k9, h9⟩) pre x suf hsplit
    (fun z hz => by
      rcases hpass z hz with h | ⟨hz0, nm, hl1, hn1⟩
      · exact Or.inl h
      · obtain ⟨c6, hc6, hcl6⟩ := Cond.classLink_spec hown hl1 e.platform hpl
        obtain ⟨a8, b8, h1, h2, h3⟩ := hn1
        cases Option.some.inj (h1.symm.trans hcl)
        cases Option.some.inj (h2.symm.trans hc6)
        exact Or.inr ⟨hz0, _, hcl6, h3⟩) hx (Or.inr ⟨h0, c4, hcl5, hasg⟩)
  obtain ⟨t, a1, b1⟩ := kk (T.setVm vm') hT X'
  exact ⟨t, st.trans a1, b1⟩
end Rows
section Ends
variable {p : Program} {l : Launch} {e : Env} {R : Room} {s : State} {m : MethodId} {args : Array Value} {below : List Frame} {meth : Method} {c : Code} {H : Heap} {locs : List Loc} {cells slots : Nat} {Q : State → Prop}
variable {mc ms : Nat} {free : Addr → Prop} {A0 A1 : Nat → Prop} {H0 : Heap} {a : Array Value} {ls : Array Slot} {st0 rest : List Value}
variable {Qc : Array Value → State → Outcome → State → Prop} {XC : String → State → State → Prop}
def vx_MQ (below : List Frame) (Qc : Array Value → State → Outcome → State → Prop) (XC : String → State → State → Prop) (a : Array Value) (s : State) (mc ms : Nat) (free : Addr → Prop) : State → Prop := fun t =>
  ∃ o, t.status = .running ∧ Ended t below o ∧ vx_Q Qc XC mc ms free a s o t
theorem vx_ret {g : JFrame} {mc ms : Nat} (k : W p l e R s m args below meth c H locs cells slots (MQ below Qc args s mc ms free) g) : W p l e R s m args below meth c H locs cells slots (vx_MQ below Qc XC args s mc ms free) g := by
  intro T hT X
  obtain ⟨t, a1, o, b1, b2, b3, b4⟩ := k T hT X
  exact ⟨t, a1, o, b1, b2, Or.inl ⟨b3, b4⟩⟩
theorem vx_widen {g : JFrame} {q : Addr} {k n : Nat} (h1 : cells ≤ k) (h2 : slots ≤ n) (kk : vx_W p l e R s m args below meth c H locs k n Q g q) : vx_W p l e R s m args below meth c H locs cells slots Q g q := fun T hT X => kk T hT (stand_widen X h1 h2)
theorem vx_out {pc : Nat} {E : String} {ce : Cell} {q : Addr} {mc ms : Nat} (hout : ∀ x ∈ c.exceptionTable.toList, covers x pc = false) (hlocks : meth.locks = false) (hcell : H[q]? = some ce) (hv : ce.vm = .none) (hcl : s.vm.findClass E = some ce.cls)
    (hx : ∀ t : State, t.heap = H → s.vm.Alike t.vm → XC E s t) (hf : ∀ z ∈ locs, free z.base) (hc : cells ≤ mc) (hs : slots ≤ ms) :
    vx_W p l e R s m args below meth c H locs cells slots (vx_MQ below Qc XC args s mc ms free) (F0 m pc ls rest) q := by
  intro T hT X
  obtain ⟨st1, hrun, hend, hW, hsm⟩ := X.leaveThrown q (g := F0 m pc ls rest) rfl rfl rfl hout hlocks
  have hcell9 : (T.setFrames (.throwing q :: below)).heap[q]? = some ce := by
    show T.heap[q]? = some ce
    rw [hT]; exact hcell
  exact ⟨_, st1, .threw q, hrun, hend, Or.inr ⟨q, rfl, E, ce, locs, hx _ hT hW.alike, hcell9, hv, hcl, hW, hsm.mono hc hs, hf⟩⟩
theorem vx_frame {U : State} {k n : Nat} (h : s.sameButNew ({ U with vm := s.vm } : State) locs k n) : s.heap.size ≤ U.heap.size ∧ ∀ q : Nat, q < s.heap.size → (∀ z ∈ locs, z.base ≠ q) → U.heap[q]? = s.heap[q]? := by
  obtain ⟨-, h2, -, -, -, h6⟩ := h
  refine ⟨h2, fun q hq hz => ?_⟩
  obtain ⟨c9, e1, e2, e3, e4⟩ := h6 q _ (Array.getElem?_eq_getElem hq)
  have hs : c9.slots = (s.heap[q]).slots := Array.ext_getElem? fun i => e4 i fun hm => hz _ hm rfl
  have h9 : c9 = s.heap[q] := by
    rw [hs] at e2
    exact e2
  have e5 : U.heap[q]? = some c9 := e1
  rw [e5, h9, Array.getElem?_eq_getElem hq]
def vx_no (w : Cond) : Bool := decide (w ≠ .isRef (.static Bundle.tN "UNASSIGNED_STACK" Bundle.steD)) && decide (w ≠ .isRef (.static Bundle.tN "SUPPRESSED_SENTINEL" Bundle.listD)) && decide (w ≠ .laysStatic Bundle.tN "UNASSIGNED_STACK" Bundle.steD) && decide (w ≠ .laysStatic Bundle.tN "SUPPRESSED_SENTINEL" Bundle.listD)
def vx_at0 (own : String) (ic : Nat) (X : String) (names : List String) : List Cond := (Bundle.ownAtoms0 own ic X names).filter vx_no
def vx_atS (own : String) (ic : Nat) (X : String) (names : List String) : List Cond := (Bundle.ownAtoms own ic X names).filter vx_no
def vx_ot (w : Cond) : Bool := w.onTables || goodWord w
theorem vx_ot_at {args a' : Array Value} {s U : State} {w : Cond} (hW : s.WarmedH U.vm) (hvm : s.vm = U.vm) (hg : vx_ot w = true) (h : w.before args s = true) : w.before a' U = true := by
  simp only [vx_ot, Bool.or_eq_true] at hg
  rcases hg with hg | hg
  · exact va_tabs hg hvm h
  · exact word_at hW (good_of_word hg) h
theorem vx_hat {args : Array Value} {s : State} {L B : List Cond} (h1 : ∀ w ∈ L.filter goodWord, w.before args s = true) (h2 : ∀ w ∈ L.filter (fun w => !goodWord w), w ∈ B) (h3 : ∀ w ∈ B, w.before args s = true) : ∀ w ∈ L, w.before args s = true := by
  intro w hw
  by_cases g : goodWord w = true
  · exact h1 w (List.mem_filter.mpr ⟨hw, g⟩)
  · refine h3 w (h2 w (List.mem_filter.mpr ⟨hw, ?_⟩))
    show (!goodWord w) = true
    cases hgw : goodWord w
    · rfl
    · exact absurd hgw g
theorem vx_c {args : Array Value} {s : State} {w : Cond} {B : List Cond} (h : w.before args s = true) (t : ∀ w ∈ B, w.before args s = true) : ∀ w' ∈ w :: B, w'.before args s = true := fun w' h' => (List.mem_cons.mp h').elim (fun e => by rw [e]; exact h) (t w')
theorem vx_n {args : Array Value} {s : State} : ∀ w ∈ ([] : List Cond), w.before args s = true := fun _ h => nomatch h
theorem vx_own {args : Array Value} {s : State} {L : List Cond} (h1 : ∀ w ∈ L.filter vx_no, w.before args s = true)
    (hU : (Cond.isRef (.static Bundle.tN "UNASSIGNED_STACK" Bundle.steD)).before args s = true) (hN : (Cond.isRef (.static Bundle.tN "SUPPRESSED_SENTINEL" Bundle.listD)).before args s = true)
    (lU : (Cond.laysStatic Bundle.tN "UNASSIGNED_STACK" Bundle.steD).before args s = true) (lN : (Cond.laysStatic Bundle.tN "SUPPRESSED_SENTINEL" Bundle.listD).before args s = true) : ∀ w ∈ L, w.before args s = true := by
  intro w hw
  by_cases e1 : w = .isRef (.static Bundle.tN "UNASSIGNED_STACK" Bundle.steD)
  · rw [e1]; exact hU
  · by_cases e2 : w = .isRef (.static Bundle.tN "SUPPRESSED_SENTINEL" Bundle.listD)
    · rw [e2]; exact hN
    · by_cases e3 : w = .laysStatic Bundle.tN "UNASSIGNED_STACK" Bundle.steD
      · rw [e3]; exact lU
      · by_cases e4 : w = .laysStatic Bundle.tN "SUPPRESSED_SENTINEL" Bundle.listD
        · rw [e4]; exact lN
        · exact h1 w (List.mem_filter.mpr ⟨hw, by unfold vx_no; rw [decide_eq_true e1, decide_eq_true e2, decide_eq_true e3, decide_eq_true e4]; rfl⟩)
def vx_L (C n d : String) (A : Nat → Prop) (U : State) (H : Heap) : Prop := ∃ (c : ClassId) (k : Class) (i : Nat) (f : Field) (a : Nat) (cell : Cell), U.vm.findClass C = some c ∧ U.fieldFound? C n d = some (c, k, i, f) ∧ f.isStatic = true ∧ k.statics = some a ∧ H[a]? = some cell ∧ cell.vm.isStatics = true ∧ cell.cls = c ∧ f.slot < cell.slots.size ∧ k.staticTypes[f.slot]? = some f.type ∧ ¬ A a
theorem vx_L.moved {C n d : String} {A : Nat → Prop} {u U : State} {H : Heap} (hvm : u.vm.Alike U.vm) (h : vx_L C n d A u H) : vx_L C n d A U H := by
  obtain ⟨c, k, i, f, a, cell, h1, h2, h3, h4, h5, h6, h7, h8, h9, h10⟩ := h
  obtain ⟨k', hi', he⟩ := State.fieldFound?_setVm hvm h2
  exact ⟨c, k', i, f, a, cell, by rw [hvm.findClass]; exact h1, hi', h3, by rw [he]; exact h4, h5, h6, h7, h8, by rw [he]; exact h9, h10⟩
theorem vx_L.kept {C n d : String} {A : Nat → Prop} {U : State} {H H1 : Heap} (h : vx_L C n d A U H) (hq : ∀ a : Nat, a < H.size → ¬ A a → H1[a]? = H[a]?) : vx_L C n d A U H1 := by
  obtain ⟨c, k, i, f, a, cell, h1, h2, h3, h4, h5, h6, h7, h8, h9, h10⟩ := h
  exact ⟨c, k, i, f, a, cell, h1, h2, h3, h4, by rw [hq a (Array.getElem?_eq_some_iff.mp h5).1 h10]; exact h5, h6, h7, h8, h9, h10⟩
theorem vx_L.narrow {C n d : String} {A B : Nat → Prop} {U : State} {H : Heap} (h : vx_L C n d A U H) (hAB : ∀ q, B q → A q) : vx_L C n d B U H := by
  obtain ⟨c, k, i, f, a, cell, h1, h2, h3, h4, h5, h6, h7, h8, h9, h10⟩ := h
  exact ⟨c, k, i, f, a, cell, h1, h2, h3, h4, h5, h6, h7, h8, h9, fun z => h10 (hAB _ z)⟩
theorem vx_L.word {C n d : String} {A : Nat → Prop} {s : State} {args : Array Value} (h : vx_L C n d A s s.heap) : (Cond.laysStatic C n d).before args s = true := by
  obtain ⟨c, k, i, f, a, cell, h1, h2, h3, h4, h5, h6, h7, h8, h9, -⟩ := h
  show (Cond.laysStatic C n d).holds args s none s [] = true
  exact Cond.laysStatic_of h1 h2 h3 h4 h5 h6 h7 h8 h9
def vx_Zq (C n d : String) (A : Nat → Prop) (U : State) (H : Heap) : Prop := va_Zq C n d A U H ∧ vx_L C n d A U H
theorem vx_Zq.moved {C n d : String} {A : Nat → Prop} {u U : State} {H : Heap} (hvm : u.vm.Alike U.vm) (h : vx_Zq C n d A u H) : vx_Zq C n d A U H := ⟨va_Zq.moved hvm h.1, vx_L.moved hvm h.2⟩
theorem vx_Zq.kept {C n d : String} {A : Nat → Prop} {U : State} {H H1 : Heap} (h : vx_Zq C n d A U H) (hq : ∀ a : Nat, a < H.size → ¬ A a → H1[a]? = H[a]?) : vx_Zq C n d A U H1 := ⟨va_Zq.kept h.1 hq, vx_L.kept h.2 hq⟩
theorem vx_Zq.narrow {C n d : String} {A B : Nat → Prop} {U : State} {H : Heap} (h : vx_Zq C n d A U H) (hAB : ∀ q, B q → A q) : vx_Zq C n d B U H := ⟨va_Zq.narrow h.1 hAB, vx_L.narrow h.2 hAB⟩
theorem vx_Zqof {args : Array Value} {s : State} {C n d : String} {A : Nat → Prop} (hl : (Cond.laysStatic C n d).before args s = true) (hini : (Cond.initialized C).before args s = true) (h : (Cond.isRef (.static C n d)).before args s = true) (hA : ∀ a : Nat, a < s.heap.size → ¬ A a) : vx_Zq C n d A s s.heap := by
  refine ⟨va_Zqof hl hini h hA, ?_⟩
  obtain ⟨c, k, i, f, a, cell, h1, h2, h3, h4, h5, h6, h7, h8, h9⟩ := Cond.laysStatic_spec hl
  exact ⟨c, k, i, f, a, cell, h1, h2, h3, h4, h5, h6, h7, h8, h9, hA a (Array.getElem?_eq_some_iff.mp h5).1⟩
theorem vx_isRef {C n d : String} {v : Value} {A : Nat → Prop} {s : State} {args : Array Value} (h : va_Z C n d v A s s.heap) (hv : v.isRef = true) : (Cond.isRef (.static C n d)).before args s = true := by
  obtain ⟨cf, kf, fi, f, a, cell, h1, h2, h3, h4, h5, h6, h7, -⟩ := h
  have he : (Term.static C n d).eval args s none [] s = some v := by
    simp [Term.eval, State.fieldNamed?, h1, h2, h4, h5, h6, h7]
  simp only [Cond.before, Cond.holds, Cond.value, he]
  cases v <;> simp_all [Value.isRef]
theorem vx_isRefq {C n d : String} {A : Nat → Prop} {s : State} {args : Array Value} (h : va_Zq C n d A s s.heap) : (Cond.isRef (.static C n d)).before args s = true := by
  rcases h with h | ⟨t, h⟩
  · exact vx_isRef h rfl
  · exact vx_isRef h rfl
theorem vx_rebase {T : State} (X : Stand p l e R s m args below meth c T locs cells slots) {R' : Room} (hf : R'.frames ≤ R.frames) (hl : R'.locals ≤ R.locals) (hc : cells + R'.cells ≤ R.cells) (hs : slots + R'.slots ≤ R.slots) :
    Stand p l e R' ((T.setVm s.vm).setFrames (.invoking m args :: below)) m args below meth c T [] 0 0 := by
  have htop : (T.setVm s.vm).topJava?.isSome := X.here.top
  have hF : ((T.setVm s.vm).setFrames (.invoking m args :: below)).frames = .invoking m args :: below := State.frames_setFrames _ (State.cur_lt_of_top htop)
  obtain ⟨g₀, hg0⟩ := Option.isSome_iff_exists.mp htop
  obtain ⟨r, hr⟩ := State.topJava?_eq_some.mp hg0
  have hl9 : e.platform.stackLimits (T.setVm s.vm).me = e.platform.stackLimits s.me := X.limits
  have hb9 : (T.setVm s.vm).me.stackBytes = s.me.stackBytes := X.bytes
  refine ⟨X.admits, X.cas, X.clock, hF, ?_, X.hears, X.method, X.code, X.here, X.tail, X.warmed, ?_, ?_, ?_⟩
  · have h := X.room
    have hU : ((T.setVm s.vm).setFrames (.invoking m args :: below)).localsInUse = s.localsInUse := by
      rw [State.localsInUse_invoking hF (meth := meth) (c := c) X.method X.code, State.localsInUse_invoking X.frames X.method X.code]
    simp only [State.hasRoom, Bool.and_eq_true, decide_eq_true_eq] at h ⊢
    obtain ⟨⟨⟨⟨h1, h2, h3, h4, h5, h6⟩, h7⟩, h8⟩, h9⟩ := h
    rw [X.frames, List.length_cons] at h2 h3
    have q1 := X.heapSize
    have q2 := X.used
    simp only [hF, hU, List.length_cons, State.stackLimits_setFrames, State.stackBytes_setFrames, hl9, hb9]
    refine ⟨⟨⟨⟨by omega, by omega, by omega, by omega, by omega, h6⟩, ?_⟩, ?_⟩, X.book⟩
    · show T.heap.size + R'.cells ≤ e.platform.maxCells
      omega
    · show T.slotsUsed + R'.slots ≤ e.platform.maxSlots
      omega
  · rw [State.stackLimits_setFrames]; rfl
  · rw [State.stackBytes_setFrames]; rfl
  · refine ⟨?_, Nat.le_refl _, Nat.le_refl _, ?_, ?_, fun a c9 h9 => ⟨c9, h9, rfl, rfl, fun _ _ => rfl⟩⟩
    · obtain ⟨t, ht, -⟩ := State.frames_cons hr
      show T.setVm s.vm = { ((T.setVm s.vm).setFrames (.invoking m args :: below)).setFrames (T.setVm s.vm).frames with heap := T.heap, slotsUsed := T.slotsUsed }
      rw [State.setFrames_setFrames, State.setFrames_self ht]
      rfl
    · show T.slotsUsed = T.slotsUsed + ((T.heap.toList.drop T.heap.size).map (·.slots.size)).sum
      rw [List.drop_eq_nil_of_le (Nat.le_of_eq Array.length_toList)]
      rfl
    · show ((T.heap.toList.drop T.heap.size).map (·.slots.size)).sum ≤ 0
      rw [List.drop_eq_nil_of_le (Nat.le_of_eq Array.length_toList)]
      exact Nat.le_refl _
theorem vx_throw0 {cc : ByteArray} {pc : Nat} (hexec : p.tables.exec = Jvm.exec) (hb : c.code = cc) (hl : l.stackTraces = false) {own cls : String} {names : List String} {ik ic mc ms : Nat} {A : Nat → Prop}
    (hown : s.vm.findClass own = some m.cls) (hcls : Bundle.fit cls = true) (hnames : ∀ n ∈ names, Bundle.fit n = true)
    (hk : (Cond.classLink own ik cls).before args s = true) (hini : (Cond.initialized cls).before args s = true) (hat : ∀ w ∈ vx_at0 own ic cls names, w.before args s = true)
    (hgood : ∀ w ∈ Cond.classLink own ik cls :: Cond.initialized cls :: vx_at0 own ic cls names, vx_ot w = true)
    (hU : vx_Zq Bundle.tN "UNASSIGNED_STACK" Bundle.steD A s s.heap) (hN : vx_Zq Bundle.tN "SUPPRESSED_SENTINEL" Bundle.listD A s s.heap) (hS : va_S A s.heap H locs) (hsize : ls.size = c.maxLocals)
    (d0 : decode cc pc = .ok (.new ik, 3)) (d3 : decode cc (pc + 3) = .ok (.dup, 1)) (d4 : decode cc (pc + 4) = .ok (.invokespecial ic, 3)) (d7 : decode cc (pc + 7) = .ok (.athrow, 1))
    (hout : ∀ x ∈ c.exceptionTable.toList, covers x (pc + 7) = false)
    (hRframes : names.length + 3 < R.frames) (hRlocals : (rest.map fun v => v.category).sum + (13 * (names.length + 1) + 42) ≤ R.locals) (hRcells : cells + 1 ≤ R.cells) (hRslots : slots + 6 ≤ R.slots) (hlocks : meth.locks = false)
    (hx : ∀ t : State, s.vm.Alike t.vm → H.size ≤ t.heap.size → (∀ q : Nat, q < H.size → t.heap[q]? = H[q]?) → XC cls s t)
    (hf : ∀ z ∈ locs, free z.base) (hc : cells + 1 ≤ mc) (hs : slots + 6 ≤ ms) :
    W p l e R s m args below meth c H locs cells slots (vx_MQ below Qc XC args s mc ms free) (F0 m pc ls rest) := by
  intro T hT X
  have htr : e.platform.stackTraces = false := (show e.platform.stackTraces = l.stackTraces by rw [X.admits.platform]).trans hl
  have Y := vx_rebase X (R' := { frames := R.frames, locals := R.locals, cells := 1, slots := 6 }) (Nat.le_refl _) (Nat.le_refl _) hRcells hRslots
  obtain ⟨s', hA⟩ : ∃ z, z = (T.setVm s.vm).setFrames (.invoking m args :: below) := ⟨_, rfl⟩
  rw [← hA] at Y
  have hvm : s'.vm = s.vm := by rw [hA]; rfl
  have hhp : s'.heap = H := by rw [hA]; exact hT
  have hW0 : s.WarmedH s'.vm := by rw [hvm]; exact State.WarmedH.refl s
  have hat' : ∀ w ∈ vx_at0 own ic cls names, w.before args s' = true := fun w hw => vx_ot_at hW0 hvm.symm (hgood w (List.mem_cons_of_mem _ (List.mem_cons_of_mem _ hw))) (hat w hw)
  have hk' : (Cond.classLink own ik cls).before args s' = true := vx_ot_at hW0 hvm.symm (hgood _ List.mem_cons_self) hk
  have hini' : (Cond.initialized cls).before args s' = true := vx_ot_at hW0 hvm.symm (hgood _ (List.mem_cons_of_mem _ List.mem_cons_self)) hini
  have hU' : vx_Zq Bundle.tN "UNASSIGNED_STACK" Bundle.steD A s' s'.heap := by rw [hhp]; exact vx_Zq.moved hW0.alike (hU.kept hS.2.1)
  have hN' : vx_Zq Bundle.tN "SUPPRESSED_SENTINEL" Bundle.listD A s' s'.heap := by rw [hhp]; exact vx_Zq.moved hW0.alike (hN.kept hS.2.1)
  have h : ∀ w ∈ Bundle.ownAtoms0 own ic cls names, w.before args s' = true := vx_own hat' (vx_isRefq hU'.1) (vx_isRefq hN'.1) hU'.2.word hN'.2.word
  have hown' : s'.vm.findClass own = some m.cls := by rw [hvm]; exact hown
  have hins : (Cond.instantiable cls 6).before args s' = true := h _ (by simp [Bundle.ownAtoms0])
  obtain ⟨vm₁, cX, kX, hfX, hkX, -, -, X₁, st1⟩ := Y.newCold hexec (own := own) (C := cls) (index := ik) (n := 6) hown' hk' hins hini'
    (g := F0 m pc ls rest) rfl (by rw [hb]; exact d0) (Nat.le_refl _) (Nat.le_refl _)
  generalize hT1 : (T.setVm vm₁).pushCell { cls := cX, slots := kX.instanceTypes.map defaultValue, vm := .none } = T1 at X₁ st1
  have hcat : (Value.ref T.heap.size).category = 1 := rfl
  have hcellA : T1.heap[T.heap.size]? = some (freshCell cX kX) := by rw [← hT1]; exact State.heap_pushCell_size _ _
  have d3' : decode c.code (pc + 3) = .ok (.dup, 1) := by rw [hb]; exact d3
  obtain ⟨U, hsteps, hrun, hend, hW, hsame, ce, hce, hO⟩ := X₁.ctorThrow0 hexec htr (own := own) (cls := cls) (names := names) (ic := ic) hown' hcls hnames h (fun x hx => nomatch hx) hfX hkX hcellA (by rw [hhp, hT]; exact Nat.le_refl _)
    (g := { method := m, pc := pc + 4, locals := ls, stack := .ref T.heap.size :: .ref T.heap.size :: rest, locked := none }) rfl hsize rfl rfl (rest := rest) rfl
    (by rw [hb]; exact d4) (by rw [hb]; exact d7) hout hRframes (by simp only [List.map_cons, List.sum_cons, hcat]; omega) hlocks
  obtain ⟨f1, f2⟩ := vx_frame hsame
  rw [hhp] at f1 f2
  have hWs : s.WarmedH U.vm := State.WarmedH.trans hW0 hW
  have hcl : s.vm.findClass cls = some ce.cls := by
    have h9 := hO.cls
    rw [hvm] at h9
    exact h9
  have hall : s.sameButNew ({ U with vm := s.vm } : State) locs mc ms := by
    subst hA
    obtain ⟨e1, e2⟩ := hsame
    rw [State.setFrames_setFrames] at e1
    have h2 : (T.setVm s.vm).sameButNew ({ U with vm := s.vm } : State) [] (0 + 1) (0 + 6) := ⟨e1, e2⟩
    have h3 := X.same.trans h2
    rw [List.append_nil] at h3
    exact h3.mono hc hs
  refine ⟨U, ?_, .threw T.heap.size, hrun, hend, Or.inr ⟨T.heap.size, rfl, cls, ce, locs, hx U hWs.alike f1 (fun q hq => f2 q hq (fun z hz => nomatch hz)), hce, hO.vm, hcl, hWs, hall, hf⟩⟩
  refine st1 _ ?_
  show Steps p.tables e below (T1.setTop { method := m, pc := pc + 3, locals := ls, stack := .ref T.heap.size :: rest, locked := none }) _
  jvm_step X₁.here [X₁.here.top, hexec, d3', Value.category]
  exact hsteps
end Ends
section Bodies
variable {l : Launch}
theorem vx_ofW {y : MethodName} {ws ws' : List Cond} {rm : Room} {Pc : Array Value → State → Prop} {Qc : Array Value → State → Outcome → State → Prop} {XC : String → State → State → Prop} {mc ms : Nat} {free : Addr → Prop} {cc : ByteArray} {maxL : Nat} {ret : Option FieldType}
    (hy : plainName y.cls = true) (hw : ws = Cond.code y cc maxL ret :: ws')
    (body : ∀ p e s m args below meth c s₁, BodyLoose p l y (headSpec ws rm) cc maxL ret e s m args below meth c s₁ → c.maxLocals = maxL → (∀ x ∈ c.exceptionTable.toList, False) → Pc args s →
      W p l e (headSpec ws rm).room s m args below meth c s.heap [] 0 0 (vx_MQ below Qc XC args s mc ms free) (entryFrame m args maxL)) : vx_Met l y ws rm Pc Qc XC mc ms free := by
  refine MetFree.of_bodyS (code := cc) (maxLocals := maxL) (ret := ret) hy ?_ ?_
  · intro args s m h hn
    obtain ⟨meth, c, h1, h2, h3, h4, h5, h6, -, -⟩ := Cond.code_spec hn (atoms_spec (ws := ws) h _ (by rw [hw]; exact List.mem_cons_self))
    exact ⟨meth, c, h1, h2, h3, h4, h5, h6⟩
  · intro p e s m args below meth c s₁ B hml hP _
    have hh0 : s₁.heap = s.heap := by rw [B.state]; rfl
    have ht : ∀ x ∈ c.exceptionTable.toList, False := by
      obtain ⟨meth9, c9, h1, h2, -, -, -, -, h7, -⟩ := Cond.code_spec B.named (atoms_spec (ws := ws) B.pre _ (by rw [hw]; exact List.mem_cons_self))
      cases Option.some.inj (h1.symm.trans B.method)
      cases Option.some.inj (h2.symm.trans (Stand.of_body B).code)
      intro x hx
      rw [Array.isEmpty_iff.mp h7] at hx
      cases hx
    obtain ⟨t, a1, o, b1, b2, b3⟩ := body p e s m args below meth c s₁ B hml ht hP s₁ hh0 (Stand.of_body B)
    exact ⟨t, o, a1, b1, b2, b3⟩
theorem vx_table {p : Program} {x y : MethodName} {S : Spec} {cc bytes : ByteArray} {maxL maxL' : Nat} {ret ret' : Option FieldType} {e : Env} {s s₁ : State} {m : MethodId} {args : Array Value} {below : List Frame} {meth : Method} {c : Code} {hh : List (Nat × Nat × Nat × Nat)}
    (B : BodyLoose p l y S cc maxL ret e s m args below meth c s₁) (h : (Cond.codeWith y bytes maxL' ret' hh).before args s = true) : c.exceptionTable.toList = tableOf hh := by
  obtain ⟨m9, meth9, c9, hn9, h1, h2, -, -, h6, -⟩ := Cond.codeWith_spec h
  cases Option.some.inj (hn9.symm.trans B.named)
  cases Option.some.inj (h1.symm.trans B.method)
  cases Option.some.inj (h2.symm.trans (Stand.of_body B).code)
  rw [← h6, table_eq]
end Bodies
end VXA
end
section
/-! what a throw needs of the start: the statics of Throwable hold references -/
def tw_ok (U : State) : Prop := vx_Zq Bundle.tN "UNASSIGNED_STACK" Bundle.steD (fun _ => False) U U.heap ∧ vx_Zq Bundle.tN "SUPPRESSED_SENTINEL" Bundle.listD (fun _ => False) U U.heap
theorem tw_ok.move {s U : State} (hvm : s.vm.Alike U.vm) (hh : ∀ a : Nat, a < s.heap.size → U.heap[a]? = s.heap[a]?) (h : tw_ok s) : tw_ok U :=
  ⟨vx_Zq.moved hvm (h.1.kept (fun a ha _ => hh a ha)), vx_Zq.moved hvm (h.2.kept (fun a ha _ => hh a ha))⟩
section PRT
variable {s : State} {H : Heap} {C : String} {b : Addr} {As : List Value} {D : va_G} {ws : va_W} {tys : List (ClassId × FieldType)}
theorem prV_T {A : Nat → Prop} (hP : va_P D vwCl ws H) (hK : va_K D vwCl tys s) (hD : va_D A ws) (hN : nw_ok s) (hTw : tw_ok s) (hh : ∀ a : Nat, a < s.heap.size → H[a]? = s.heap[a]?) (hrec : ∃ cell : Cell, H[b]? = some cell ∧ cell.vm.isStatics = false ∧ s.vm.findClass C = some cell.cls) : PreV s H C b (va_Pc (.ref b :: As) (fun U => pc_E D ws tys H.size U ∧ tw_ok U)) As :=
  ⟨fun a U g mk q => ⟨q.1, ⟨q.2.1.1, q.2.1.2.1, va_K.moved (u := U) (U := U.calling g mk a) (Vm.Alike.refl U.vm) q.2.1.2.2.1, q.2.1.2.2.2.1, nw_ok.same (s := U) (U := U.calling g mk a) rfl q.2.1.2.2.2.2⟩, tw_ok.move (s := U) (U := U.calling g mk a) (Vm.Alike.refl U.vm) (fun _ _ => rfl) q.2.2⟩, hrec, fun U hU hW => ⟨rfl, ⟨by rw [hU], by rw [hU]; exact hP, va_K.moved hW.alike hK, hD.weaken (fun _ _ _ _ => trivial), hN.warm hW⟩, tw_ok.move hW.alike (fun a ha => by rw [hU]; exact hh a ha) hTw⟩⟩
theorem prS_T {A : Nat → Prop} (hP : va_P D vwCl ws H) (hK : va_K D vwCl tys s) (hD : va_D A ws) (hN : nw_ok s) (hTw : tw_ok s) (hh : ∀ a : Nat, a < s.heap.size → H[a]? = s.heap[a]?) : PreS s H (va_Pc As (fun U => pc_E D ws tys H.size U ∧ tw_ok U)) As :=
  ⟨fun a U g mk q => ⟨q.1, ⟨q.2.1.1, q.2.1.2.1, va_K.moved (u := U) (U := U.calling g mk a) (Vm.Alike.refl U.vm) q.2.1.2.2.1, q.2.1.2.2.2.1, nw_ok.same (s := U) (U := U.calling g mk a) rfl q.2.1.2.2.2.2⟩, tw_ok.move (s := U) (U := U.calling g mk a) (Vm.Alike.refl U.vm) (fun _ _ => rfl) q.2.2⟩, fun U hU hW => ⟨rfl, ⟨by rw [hU], by rw [hU]; exact hP, va_K.moved hW.alike hK, hD.weaken (fun _ _ _ _ => trivial), hN.warm hW⟩, tw_ok.move hW.alike (fun a ha => by rw [hU]; exact hh a ha) hTw⟩⟩
end PRT
theorem tw_1 : ∀ w ∈ (vx_at0 "TextKeeper" 142 "java/util/NoSuchElementException" ["java/lang/RuntimeException", "java/lang/Exception"]).filter goodWord, w ∈ w0 := by decide +kernel
theorem tw_2 : ∀ w ∈ (vx_at0 "TextKeeper" 142 "java/util/NoSuchElementException" ["java/lang/RuntimeException", "java/lang/Exception"]).filter (fun w => !goodWord w), w ∈ nw0 := by decide +kernel
theorem tw_gd : ∀ w ∈ Cond.classLink "TextKeeper" 140 "java/util/NoSuchElementException" :: Cond.initialized "java/util/NoSuchElementException" :: vx_at0 "TextKeeper" 142 "java/util/NoSuchElementException" ["java/lang/RuntimeException", "java/lang/Exception"], vx_ot w = true := by decide +kernel
set_option maxHeartbeats 4000000 in
set_option maxRecDepth 100000 in
theorem c_about (l : Launch) (hl9 : l.stackTraces = false) (dC : Nat → ClassId) (dI : Nat → Nat → Nat) (sz : Nat) (h0 : Nat) (v_buffer : Value) (v_fetched : Value) (v_compared : Value) (v_maker : Value) (v_writer : Value) (i_madeDocuments : Int32) (i_fetchedSteps : Int32) (hp : Nat) (p_i_going : Int32) (p_i_writesLeft : Int32) (hd : Nat) (cD : ClassId) (a1 : Int32) (a2 : Int32) : vx_Met l y_K_about k_K_about ({ frames := 6, cells := 1, slots := 6, locals := 85 } : Room) (va_Pc [.ref h0, .int a1, .int a2] (fun U => pc_E (dC, dI) [(h0, .inr (0, [.ref hd, v_buffer, v_fetched, v_compared, v_maker, v_writer, .ref hp, .int i_madeDocuments, .int i_fetchedSteps])), (hp, .inr (4, [.int 0, .int p_i_going, .int p_i_writesLeft])), (hd, .inl (cD, 8, .inr (.inr (.inr (.inr (fun _ => none))))))] [(cD, .object R_D)] sz U ∧ tw_ok U)) (va_Qi (fun (_ : Int32) (_ : Unit) => False) (fun _ _ => True) (va_A [(h0, .inr (0, [.ref hd, v_buffer, v_fetched, v_compared, v_maker, v_writer, .ref hp, .int i_madeDocuments, .int i_fetchedSteps])), (hp, .inr (4, [.int 0, .int p_i_going, .int p_i_writesLeft])), (hd, .inl (cD, 8, .inr (.inr (.inr (.inr (fun _ => none))))))] sz)) (vx_X (fun _ : Unit => True) (fun E _ t => E = "java/util/NoSuchElementException" ∧ at_E (dC, dI) (va_A [(h0, .inr (0, [.ref hd, v_buffer, v_fetched, v_compared, v_maker, v_writer, .ref hp, .int i_madeDocuments, .int i_fetchedSteps])), (hp, .inr (4, [.int 0, .int p_i_going, .int p_i_writesLeft])), (hd, .inl (cD, 8, .inr (.inr (.inr (.inr (fun _ => none))))))] sz) [(h0, .inr (0, [.ref hd, v_buffer, v_fetched, v_compared, v_maker, v_writer, .ref hp, .int i_madeDocuments, .int i_fetchedSteps])), (hp, .inr (4, [.int 0, .int p_i_going, .int p_i_writesLeft])), (hd, .inl (cD, 8, .inr (.inr (.inr (.inr (fun _ => none))))))] [(cD, .object R_D)] t) (va_A [(h0, .inr (0, [.ref hd, v_buffer, v_fetched, v_compared, v_maker, v_writer, .ref hp, .int i_madeDocuments, .int i_fetchedSteps])), (hp, .inr (4, [.int 0, .int p_i_going, .int p_i_writesLeft])), (hd, .inl (cD, 8, .inr (.inr (.inr (.inr (fun _ => none))))))] sz)) 1 6 (va_A [(h0, .inr (0, [.ref hd, v_buffer, v_fetched, v_compared, v_maker, v_writer, .ref hp, .int i_madeDocuments, .int i_fetchedSteps])), (hp, .inr (4, [.int 0, .int p_i_going, .int p_i_writesLeft])), (hd, .inl (cD, 8, .inr (.inr (.inr (.inr (fun _ => none))))))] sz) := by
  refine vx_ofW (cc := prog_1_method_11_code) (maxL := 4) (ret := (some .int)) (by decide) rfl ?_
  intro p e s m args below meth c s₁ B hml htab hv
  obtain ⟨rfl, ⟨hsz, hP, hK, hD0, hN⟩, hTw⟩ := hv
  have hx := B.exec
  have hb := B.bytes
  have hr := B.returns
  have hts := atoms_spec (ws := k_K_about) B.pre
  have hw0 : ∀ w ∈ w0, w.before _ s = true := fun w h => hts w (List.mem_cons_of_mem _ h)
  have hown : s.vm.findClass R_K = some m.cls := findClass_of_methodNamed B.named
  have hlocks := B.notSynchronized
  subst hsz
  have hD := hD0.self (sz := s.heap.size)
  generalize hAe : va_A [(h0, .inr (0, [.ref hd, v_buffer, v_fetched, v_compared, v_maker, v_writer, .ref hp, .int i_madeDocuments, .int i_fetchedSteps])), (hp, .inr (4, [.int 0, .int p_i_going, .int p_i_writesLeft])), (hd, .inl (cD, 8, .inr (.inr (.inr (.inr (fun _ => none))))))] s.heap.size = A at hD ⊢
  have hP : va_P (dC, dI) vwCl [(h0, .inr (0, [.ref hd, v_buffer, v_fetched, v_compared, v_maker, v_writer, .ref hp, .int i_madeDocuments, .int i_fetchedSteps])), (hp, .inr (4, [.int 0, .int p_i_going, .int p_i_writesLeft])), (hd, .inl (cD, 8, .inr (.inr (.inr (.inr (fun _ => none))))))] s.heap := hP
  have hl := lv_entry ([.ref h0, .int a1, .int a2]) (n := 4) (Nat.le_of_ble_eq_true rfl)
  rw [lg_entry_eq]
  generalize (lg_sl ([.ref h0, .int a1, .int a2]) ++ List.replicate (4 - (lg_sl ([.ref h0, .int a1, .int a2])).length) Slot.unset).toArray = ls at hl ⊢
  have tw_at : ∀ w ∈ vx_at0 "TextKeeper" 142 "java/util/NoSuchElementException" ["java/lang/RuntimeException", "java/lang/Exception"], w.before _ s = true := vx_hat (fun w h => hw0 w (tw_1 w h)) tw_2 (fun w h => va_Nw.use (nw0_tab w h) (hN.1 w h))
  have hl : lv_has ls 4 [(0, .ref h0), (1, .int a1), (2, .int a2)] := hl
  refine lv_aload_n hx hb d_K_about_0 rfl (lv_at hl 0 rfl) ?_
  have hPc := hP.sub (ws' := [(h0, .inr (0, [.ref hd, v_buffer, v_fetched, v_compared, v_maker, v_writer, .ref hp, .int i_madeDocuments, .int i_fetchedSteps])), (hp, .inr (4, [.int 0, .int p_i_going, .int p_i_writesLeft]))]) [0, 1] rfl
  have hKc := hK.sub (tys' := []) [] rfl
  refine ps_v (va_runV (As := []) (rest := []) ⟨hx, hb, hml, hown, hw0⟩ (c_needPower l dC dI h0 (.ref hd) v_buffer v_fetched v_compared v_maker v_writer i_madeDocuments i_fetchedSteps hp p_i_going p_i_writesLeft) (cwV 0 hw0 (gd_V 113 114 115 111 116 rfl rfl rfl rfl rfl) rfl rfl rfl (by decide +kernel) ⟨by decide +kernel, by decide +kernel⟩) (prV_R hPc hKc hN (va_recv hKc hPc (ci := 0) (q0 := 0) rfl rfl)) rfl rfl hl.1 rfl (lv_room (Nat.le_of_ble_eq_true rfl)) d_K_about_1 ⟨by decide +kernel, by decide +kernel⟩) ?_
  refine lv_aload_n hx hb d_K_about_4 rfl (lv_at hl 0 rfl) ?_
  refine lv_iload_n hx hb d_K_about_5 rfl (lv_at hl 1 rfl) ?_
  have hPc := hP.sub (ws' := [(h0, .inr (0, [.ref hd, v_buffer, v_fetched, v_compared, v_maker, v_writer, .ref hp, .int i_madeDocuments, .int i_fetchedSteps])), (hd, .inl (cD, 8, .inr (.inr (.inr (.inr (fun _ => none))))))]) [0, 2] rfl
  have hKc := hK.sub (tys' := [(cD, .object R_D)]) [0] rfl
  refine ps_q (va_runV (As := [.int a1]) (rest := []) ⟨hx, hb, hml, hown, hw0⟩ (c_documentAt l dC dI h0 v_buffer v_fetched v_compared v_maker v_writer (.ref hp) i_madeDocuments i_fetchedSteps hd cD a1) (cwV 1 hw0 (gd_V 108 109 110 111 112 rfl rfl rfl rfl rfl) rfl rfl rfl (by decide +kernel) ⟨by decide +kernel, by decide +kernel⟩) (prV_R hPc hKc hN (va_recv hKc hPc (ci := 0) (q0 := 0) rfl rfl)) rfl rfl hl.1 rfl (lv_room (Nat.le_of_ble_eq_true rfl)) d_K_about_6 ⟨by decide +kernel, by decide +kernel⟩) (fun r_1 hr_1 => ?_)
  obtain rfl : r_1 = none := hr_1
  refine W.eq (g2 := F0 m 9 ls [.null]) rfl ?_
  refine lv_astore_nN (lv' := [(3, .null), (0, .ref h0), (1, .int a1), (2, .int a2)]) hx hb d_K_about_9 rfl hl (by decide) rfl (fun ls hl => ?_)
  refine lv_aload_nN hx hb d_K_about_10 rfl (lv_at hl 0 rfl) ?_
  refine lv_ifnonnullN hx hb d_K_about_11 ?_
  exact vx_throw0 (names := ["java/lang/RuntimeException", "java/lang/Exception"]) (ik := 140) (ic := 142) (A := fun _ => False) hx hb hl9 hown (by decide +kernel) (by decide +kernel) (hw0 (.classLink "TextKeeper" 140 "java/util/NoSuchElementException") (List.mem_of_getElem? (i := 250) rfl)) (hw0 (.initialized "java/util/NoSuchElementException") (List.mem_of_getElem? (i := 219) rfl)) tw_at tw_gd hTw.1 hTw.2 va_S.rf (by rw [hml]; exact hl.1) d_K_about_14 d_K_about_17 d_K_about_18 d_K_about_21 (fun x hx => (htab x hx).elim) (by decide +kernel) (by decide +kernel) (by decide +kernel) (by decide +kernel) hlocks (fun t hvm hz hk => ⟨(), trivial, ⟨rfl, hP.kept (fun k q hq => hk _ ((hP k q hq).lt)), va_K.moved hvm hK, hD⟩, hz, fun q h _ => hk q h⟩) (fun z hz => by cases hz) (Nat.le_refl _) (Nat.le_refl _)
set_option maxHeartbeats 4000000 in
set_option maxRecDepth 100000 in
theorem w_about (l : Launch) (hl9 : l.stackTraces = false) (dC : Nat → ClassId) (dI : Nat → Nat → Nat) (sz : Nat) (h0 : Nat) (v_buffer : Value) (v_fetched : Value) (v_compared : Value) (v_maker : Value) (v_writer : Value) (i_madeDocuments : Int32) (i_fetchedSteps : Int32) (hp : Nat) (p_i_going : Int32) (p_i_writesLeft : Int32) (hd : Nat) (cD : ClassId) (a1 : Int32) (a2 : Int32) (ho : Nat) : Met l y_L_about k_L_about ({ frames := 7, cells := 1, slots := 6, locals := 108 } : Room) (va_Pc [.ref h0, .int a1, .int a2, .ref ho] (fun U => pc_E (dC, dI) [(h0, .inr (0, [.ref hd, v_buffer, v_fetched, v_compared, v_maker, v_writer, .ref hp, .int i_madeDocuments, .int i_fetchedSteps])), (hp, .inr (4, [.int 0, .int p_i_going, .int p_i_writesLeft])), (hd, .inl (cD, 8, .inr (.inr (.inr (.inr (fun _ => none))))))] [(cD, .object R_D)] sz U ∧ tw_ok U)) (va_Qi (fun (r : Int32) (_ : Unit) => r = 1) (fun (_ : Unit) t => at_E (dC, dI) (va_A [(h0, .inr (0, [.ref hd, v_buffer, v_fetched, v_compared, v_maker, v_writer, .ref hp, .int i_madeDocuments, .int i_fetchedSteps])), (hp, .inr (4, [.int 0, .int p_i_going, .int p_i_writesLeft])), (hd, .inl (cD, 8, .inr (.inr (.inr (.inr (fun _ => none))))))] sz) [] [] t) (va_A [(h0, .inr (0, [.ref hd, v_buffer, v_fetched, v_compared, v_maker, v_writer, .ref hp, .int i_madeDocuments, .int i_fetchedSteps])), (hp, .inr (4, [.int 0, .int p_i_going, .int p_i_writesLeft])), (hd, .inl (cD, 8, .inr (.inr (.inr (.inr (fun _ => none))))))] sz)) 1 6 (va_A [(h0, .inr (0, [.ref hd, v_buffer, v_fetched, v_compared, v_maker, v_writer, .ref hp, .int i_madeDocuments, .int i_fetchedSteps])), (hp, .inr (4, [.int 0, .int p_i_going, .int p_i_writesLeft])), (hd, .inl (cD, 8, .inr (.inr (.inr (.inr (fun _ => none))))))] sz) := by
  refine va_MetW (hh := [(0, 10, 13, 47), (0, 10, 17, 49), (0, 10, 21, 13)]) (cc := method_12_code) (maxL := 5) (ret := (some .int)) (by decide) rfl ?_
  intro p e s m args below meth c s₁ B hml hv
  obtain ⟨rfl, ⟨hsz, hP, hK, hD0, hN⟩, hTw⟩ := hv
  have hx := B.exec
  have hb := B.bytes
  have hr := B.returns
  have hts := atoms_spec (ws := k_L_about) B.pre
  have hw0 : ∀ w ∈ w0, w.before _ s = true := fun w h => hts w (List.mem_cons_of_mem _ h)
  have hown : s.vm.findClass R_L = some m.cls := findClass_of_methodNamed B.named
  have hlocks := B.notSynchronized
  have htab := vx_table (x := y_L_about) B (hts (.codeWith y_L_about method_12_code 5 (some .int) [(0, 10, 13, 47), (0, 10, 17, 49), (0, 10, 21, 13)]) List.mem_cons_self)
  subst hsz
  have hD := hD0.self (sz := s.heap.size)
  generalize hAe : va_A [(h0, .inr (0, [.ref hd, v_buffer, v_fetched, v_compared, v_maker, v_writer, .ref hp, .int i_madeDocuments, .int i_fetchedSteps])), (hp, .inr (4, [.int 0, .int p_i_going, .int p_i_writesLeft])), (hd, .inl (cD, 8, .inr (.inr (.inr (.inr (fun _ => none))))))] s.heap.size = A at hD ⊢
  have hA : ∀ q : Nat, s.heap.size ≤ q → A q := fun q h => by rw [← hAe]; exact Or.inr h
  have hS : va_S A s.heap s.heap [] := va_S.rf
  have hP : va_P (dC, dI) vwCl [(h0, .inr (0, [.ref hd, v_buffer, v_fetched, v_compared, v_maker, v_writer, .ref hp, .int i_madeDocuments, .int i_fetchedSteps])), (hp, .inr (4, [.int 0, .int p_i_going, .int p_i_writesLeft])), (hd, .inl (cD, 8, .inr (.inr (.inr (.inr (fun _ => none))))))] s.heap := hP
  have hl := lv_entry ([.ref h0, .int a1, .int a2, .ref ho]) (n := 5) (Nat.le_of_ble_eq_true rfl)
  rw [lg_entry_eq]
  generalize (lg_sl ([.ref h0, .int a1, .int a2, .ref ho]) ++ List.replicate (5 - (lg_sl ([.ref h0, .int a1, .int a2, .ref ho])).length) Slot.unset).toArray = ls at hl ⊢
  have hl : lv_has ls 5 [(0, .ref h0), (1, .int a1), (2, .int a2), (3, .ref ho)] := hl
  refine lv_aload_n hx hb d_L_about_0 rfl (lv_at hl 3 rfl) ?_
  refine lv_iconst (v := 0) hx hb d_L_about_1 (by decide) ?_
  refine lv_aload_n hx hb d_L_about_2 rfl (lv_at hl 0 rfl) ?_
  refine lv_iload_n hx hb d_L_about_3 rfl (lv_at hl 1 rfl) ?_
  refine lv_iload_n hx hb d_L_about_4 rfl (lv_at hl 2 rfl) ?_
  have hPc := hP.sub (ws' := [(h0, .inr (0, [.ref hd, v_buffer, v_fetched, v_compared, v_maker, v_writer, .ref hp, .int i_madeDocuments, .int i_fetchedSteps])), (hp, .inr (4, [.int 0, .int p_i_going, .int p_i_writesLeft])), (hd, .inl (cD, 8, .inr (.inr (.inr (.inr (fun _ => none))))))]) [0, 1, 2] rfl
  have hKc := hK.sub (tys' := [(cD, .object R_D)]) [0] rfl
  have hDc := hD.sub (ws' := [(h0, .inr (0, [.ref hd, v_buffer, v_fetched, v_compared, v_maker, v_writer, .ref hp, .int i_madeDocuments, .int i_fetchedSteps])), (hp, .inr (4, [.int 0, .int p_i_going, .int p_i_writesLeft])), (hd, .inl (cD, 8, .inr (.inr (.inr (.inr (fun _ => none))))))]) [0, 1, 2] (by decide) rfl
  have hFc := va_free (wc := [(h0, .inr (0, [.ref hd, v_buffer, v_fetched, v_compared, v_maker, v_writer, .ref hp, .int i_madeDocuments, .int i_fetchedSteps])), (hp, .inr (4, [.int 0, .int p_i_going, .int p_i_writesLeft])), (hd, .inl (cD, 8, .inr (.inr (.inr (.inr (fun _ => none))))))]) hD hS hA [0, 1, 2] rfl
  refine vx_calli (vx_runV (As := [.int a1, .int a2]) (rest := [.int 0, .ref ho]) ⟨hx, hb, hml, hown, hw0⟩ (c_about l hl9 dC dI s.heap.size h0 v_buffer v_fetched v_compared v_maker v_writer i_madeDocuments i_fetchedSteps hp p_i_going p_i_writesLeft hd cD a1 a2) (cwV 2 hw0 (gd_V 264 265 266 111 267 rfl rfl rfl rfl rfl) rfl rfl rfl (by decide +kernel) ⟨by decide +kernel, by decide +kernel⟩) (prV_T hPc hKc hDc hN hTw (fun _ _ => rfl) (va_recv hKc hPc (ci := 0) (q0 := 0) rfl rfl)) rfl rfl hl.1 rfl (lv_room (Nat.le_of_ble_eq_true rfl)) d_L_about_5 ⟨by decide +kernel, by decide +kernel⟩) hS (fun q _ h => hFc q h) hFc (fun q _ h => hFc q h) (fun E ce q9 u t H1 locs ht hvm hw hB hz1 hk1 hS hce hcv hcl => ?_) (fun r u t H1 locs ht hvm hw hB hz1 hk1 hS => False.elim hw)
  obtain ⟨rfl, hP1, hK1, hD1⟩ := hB
  rw [ht] at hP1
  refine vx_catch (name := "java/util/NoSuchElementException") hown [] ⟨0, 10, 13, 47⟩ [⟨0, 10, 17, 49⟩, ⟨0, 10, 21, 13⟩] (htab.trans rfl) (fun z hz => by cases hz) (by decide) (by decide) (hw0 (.classLink "TextKeeperLaw" 47 "java/util/NoSuchElementException") (List.mem_of_getElem? (i := 249) rfl)) (va_Nw.use rfl (hN.1 (.castable "java/util/NoSuchElementException" "java/util/NoSuchElementException") (List.mem_of_getElem? (i := 4) rfl))) hce hcv hcl ?_
  refine W.eq (g2 := F0 m 13 ls [.ref q9]) rfl ?_
  replace hP : va_P (dC, dI) vwCl [] H1 := hP1.sub (ws' := []) [] rfl
  replace hD : va_D A [] := hD.sub (ws' := []) [] (by decide) rfl
  replace hK : va_K (dC, dI) vwCl [] s := hK.sub (tys' := []) [] rfl
  generalize H1 = H at hP hS hce ⊢
  refine W.widen (k := 1) (n := 6) (by decide +kernel) (by decide +kernel) ?_
  refine lv_astore (lv' := [(4, .ref q9), (0, .ref h0), (1, .int a1), (2, .int a2), (3, .ref ho)]) hx hb d_L_about_13 hl (by decide) rfl (fun ls hl => ?_)
  refine lv_iconst (v := 1) hx hb d_L_about_15 (by decide) ?_
  have hP9 := hP.sub (ws' := []) [] rfl
  have hD9 := hD.sub (ws' := []) [] (by decide) rfl
  have hK9 := hK.sub (tys' := []) [] rfl
  exact W.iret (v := 1) hx hb hr (fun t ht hW => ⟨⟨1, (), rfl, rfl, by rw [ht]; exact hP9, va_K.moved hW.alike hK9, hD9⟩, hS.F ht⟩) hS.2.2 d_L_about_16
set_option maxHeartbeats 4000000 in
set_option maxRecDepth 100000 in
theorem c_revision (l : Launch) (hl9 : l.stackTraces = false) (dC : Nat → ClassId) (dI : Nat → Nat → Nat) (sz : Nat) (h0 : Nat) (v_buffer : Value) (v_fetched : Value) (v_compared : Value) (v_maker : Value) (v_writer : Value) (i_madeDocuments : Int32) (i_fetchedSteps : Int32) (hp : Nat) (p_i_going : Int32) (p_i_writesLeft : Int32) (hd : Nat) (cD : ClassId) (a1 : Int32) (a2 : Int32) (a3 : Int32) : vx_Met l y_K_revision k_K_revision ({ frames := 6, cells := 1, slots := 6, locals := 85 } : Room) (va_Pc [.ref h0, .int a1, .int a2, .int a3] (fun U => pc_E (dC, dI) [(h0, .inr (0, [.ref hd, v_buffer, v_fetched, v_compared, v_maker, v_writer, .ref hp, .int i_madeDocuments, .int i_fetchedSteps])), (hp, .inr (4, [.int 0, .int p_i_going, .int p_i_writesLeft])), (hd, .inl (cD, 8, .inr (.inr (.inr (.inr (fun _ => none))))))] [(cD, .object R_D)] sz U ∧ tw_ok U)) (va_Qi (fun (_ : Int32) (_ : Unit) => False) (fun _ _ => True) (va_A [(h0, .inr (0, [.ref hd, v_buffer, v_fetched, v_compared, v_maker, v_writer, .ref hp, .int i_madeDocuments, .int i_fetchedSteps])), (hp, .inr (4, [.int 0, .int p_i_going, .int p_i_writesLeft])), (hd, .inl (cD, 8, .inr (.inr (.inr (.inr (fun _ => none))))))] sz)) (vx_X (fun _ : Unit => True) (fun E _ t => E = "java/util/NoSuchElementException" ∧ at_E (dC, dI) (va_A [(h0, .inr (0, [.ref hd, v_buffer, v_fetched, v_compared, v_maker, v_writer, .ref hp, .int i_madeDocuments, .int i_fetchedSteps])), (hp, .inr (4, [.int 0, .int p_i_going, .int p_i_writesLeft])), (hd, .inl (cD, 8, .inr (.inr (.inr (.inr (fun _ => none))))))] sz) [(h0, .inr (0, [.ref hd, v_buffer, v_fetched, v_compared, v_maker, v_writer, .ref hp, .int i_madeDocuments, .int i_fetchedSteps])), (hp, .inr (4, [.int 0, .int p_i_going, .int p_i_writesLeft])), (hd, .inl (cD, 8, .inr (.inr (.inr (.inr (fun _ => none))))))] [(cD, .object R_D)] t) (va_A [(h0, .inr (0, [.ref hd, v_buffer, v_fetched, v_compared, v_maker, v_writer, .ref hp, .int i_madeDocuments, .int i_fetchedSteps])), (hp, .inr (4, [.int 0, .int p_i_going, .int p_i_writesLeft])), (hd, .inl (cD, 8, .inr (.inr (.inr (.inr (fun _ => none))))))] sz)) 1 6 (va_A [(h0, .inr (0, [.ref hd, v_buffer, v_fetched, v_compared, v_maker, v_writer, .ref hp, .int i_madeDocuments, .int i_fetchedSteps])), (hp, .inr (4, [.int 0, .int p_i_going, .int p_i_writesLeft])), (hd, .inl (cD, 8, .inr (.inr (.inr (.inr (fun _ => none))))))] sz) := by
  refine vx_ofW (cc := prog_1_method_12_code) (maxL := 7) (ret := (some .int)) (by decide) rfl ?_
  intro p e s m args below meth c s₁ B hml htab hv
  obtain ⟨rfl, ⟨hsz, hP, hK, hD0, hN⟩, hTw⟩ := hv
  have hx := B.exec
  have hb := B.bytes
  have hr := B.returns
  have hts := atoms_spec (ws := k_K_revision) B.pre
  have hw0 : ∀ w ∈ w0, w.before _ s = true := fun w h => hts w (List.mem_cons_of_mem _ h)
  have hown : s.vm.findClass R_K = some m.cls := findClass_of_methodNamed B.named
  have hlocks := B.notSynchronized
  subst hsz
  have hD := hD0.self (sz := s.heap.size)
  generalize hAe : va_A [(h0, .inr (0, [.ref hd, v_buffer, v_fetched, v_compared, v_maker, v_writer, .ref hp, .int i_madeDocuments, .int i_fetchedSteps])), (hp, .inr (4, [.int 0, .int p_i_going, .int p_i_writesLeft])), (hd, .inl (cD, 8, .inr (.inr (.inr (.inr (fun _ => none))))))] s.heap.size = A at hD ⊢
  have hP : va_P (dC, dI) vwCl [(h0, .inr (0, [.ref hd, v_buffer, v_fetched, v_compared, v_maker, v_writer, .ref hp, .int i_madeDocuments, .int i_fetchedSteps])), (hp, .inr (4, [.int 0, .int p_i_going, .int p_i_writesLeft])), (hd, .inl (cD, 8, .inr (.inr (.inr (.inr (fun _ => none))))))] s.heap := hP
  have hl := lv_entry ([.ref h0, .int a1, .int a2, .int a3]) (n := 7) (Nat.le_of_ble_eq_true rfl)
  rw [lg_entry_eq]
  generalize (lg_sl ([.ref h0, .int a1, .int a2, .int a3]) ++ List.replicate (7 - (lg_sl ([.ref h0, .int a1, .int a2, .int a3])).length) Slot.unset).toArray = ls at hl ⊢
  have tw_at : ∀ w ∈ vx_at0 "TextKeeper" 142 "java/util/NoSuchElementException" ["java/lang/RuntimeException", "java/lang/Exception"], w.before _ s = true := vx_hat (fun w h => hw0 w (tw_1 w h)) tw_2 (fun w h => va_Nw.use (nw0_tab w h) (hN.1 w h))
  have hl : lv_has ls 7 [(0, .ref h0), (1, .int a1), (2, .int a2), (3, .int a3)] := hl
  refine lv_aload_n hx hb d_K_revision_0 rfl (lv_at hl 0 rfl) ?_
  have hPc := hP.sub (ws' := [(h0, .inr (0, [.ref hd, v_buffer, v_fetched, v_compared, v_maker, v_writer, .ref hp, .int i_madeDocuments, .int i_fetchedSteps])), (hp, .inr (4, [.int 0, .int p_i_going, .int p_i_writesLeft]))]) [0, 1] rfl
  have hKc := hK.sub (tys' := []) [] rfl
  refine ps_v (va_runV (As := []) (rest := []) ⟨hx, hb, hml, hown, hw0⟩ (c_needPower l dC dI h0 (.ref hd) v_buffer v_fetched v_compared v_maker v_writer i_madeDocuments i_fetchedSteps hp p_i_going p_i_writesLeft) (cwV 0 hw0 (gd_V 113 114 115 111 116 rfl rfl rfl rfl rfl) rfl rfl rfl (by decide +kernel) ⟨by decide +kernel, by decide +kernel⟩) (prV_R hPc hKc hN (va_recv hKc hPc (ci := 0) (q0 := 0) rfl rfl)) rfl rfl hl.1 rfl (lv_room (Nat.le_of_ble_eq_true rfl)) d_K_revision_1 ⟨by decide +kernel, by decide +kernel⟩) ?_
  refine lv_aload_n hx hb d_K_revision_4 rfl (lv_at hl 0 rfl) ?_
  refine lv_iload_n hx hb d_K_revision_5 rfl (lv_at hl 1 rfl) ?_
  have hPc := hP.sub (ws' := [(h0, .inr (0, [.ref hd, v_buffer, v_fetched, v_compared, v_maker, v_writer, .ref hp, .int i_madeDocuments, .int i_fetchedSteps])), (hd, .inl (cD, 8, .inr (.inr (.inr (.inr (fun _ => none))))))]) [0, 2] rfl
  have hKc := hK.sub (tys' := [(cD, .object R_D)]) [0] rfl
  refine ps_q (va_runV (As := [.int a1]) (rest := []) ⟨hx, hb, hml, hown, hw0⟩ (c_documentAt l dC dI h0 v_buffer v_fetched v_compared v_maker v_writer (.ref hp) i_madeDocuments i_fetchedSteps hd cD a1) (cwV 1 hw0 (gd_V 108 109 110 111 112 rfl rfl rfl rfl rfl) rfl rfl rfl (by decide +kernel) ⟨by decide +kernel, by decide +kernel⟩) (prV_R hPc hKc hN (va_recv hKc hPc (ci := 0) (q0 := 0) rfl rfl)) rfl rfl hl.1 rfl (lv_room (Nat.le_of_ble_eq_true rfl)) d_K_revision_6 ⟨by decide +kernel, by decide +kernel⟩) (fun r_1 hr_1 => ?_)
  obtain rfl : r_1 = none := hr_1
  refine W.eq (g2 := F0 m 9 ls [.null]) rfl ?_
  refine lv_astoreN (lv' := [(4, .null), (0, .ref h0), (1, .int a1), (2, .int a2), (3, .int a3)]) hx hb d_K_revision_9 hl (by decide) rfl (fun ls hl => ?_)
  refine lv_aload_n hx hb d_K_revision_11 rfl (lv_at hl 1 rfl) ?_
  refine lv_iload_n hx hb d_K_revision_12 rfl (lv_at hl 2 rfl) ?_
  refine lv_iload_n hx hb d_K_revision_13 rfl (lv_at hl 3 rfl) ?_
  have hPc := hP.sub (ws' := [(h0, .inr (0, [.ref hd, v_buffer, v_fetched, v_compared, v_maker, v_writer, .ref hp, .int i_madeDocuments, .int i_fetchedSteps])), (hd, .inl (cD, 8, .inr (.inr (.inr (.inr (fun _ => none))))))]) [0, 2] rfl
  have hKc := hK.sub (tys' := [(cD, .object R_D)]) [0] rfl
  refine ps_q (va_runV (As := [.int a1, .int a2]) (rest := []) ⟨hx, hb, hml, hown, hw0⟩ (c_keptRevision l dC dI h0 v_buffer v_fetched v_compared v_maker v_writer (.ref hp) i_madeDocuments i_fetchedSteps hd cD a1 a2) (cwV 2 hw0 (gd_V 117 118 119 111 120 rfl rfl rfl rfl rfl) rfl rfl rfl (by decide +kernel) ⟨by decide +kernel, by decide +kernel⟩) (prV_R hPc hKc hN (va_recv hKc hPc (ci := 0) (q0 := 0) rfl rfl)) rfl rfl hl.1 rfl (lv_room (Nat.le_of_ble_eq_true rfl)) d_K_revision_14 ⟨by decide +kernel, by decide +kernel⟩) (fun r_2 hr_2 => ?_)
  obtain rfl : r_2 = none := hr_2
  refine W.eq (g2 := F0 m 17 ls [.null]) rfl ?_
  refine lv_astoreN (lv' := [(5, .null), (4, .null), (0, .ref h0), (1, .int a1), (2, .int a2), (3, .int a3)]) hx hb d_K_revision_17 hl (by decide) rfl (fun ls hl => ?_)
  refine lv_aloadN hx hb d_K_revision_19 (lv_at hl 1 rfl) ?_
  refine lv_ifnullN (tgt := 37) hx hb d_K_revision_21 (by decide) ?_
  refine lv_iconst (v := 0) hx hb d_K_revision_37 (by decide) ?_
  refine lv_istore (lv' := [(6, .int 0), (5, .null), (4, .null), (0, .ref h0), (1, .int a1), (2, .int a2), (3, .int a3)]) hx hb d_K_revision_38 hl (by decide) rfl (fun ls hl => ?_)
  refine lv_aloadN hx hb d_K_revision_40 (lv_at hl 1 rfl) ?_
  refine lv_ifnullN (tgt := 59) hx hb d_K_revision_42 (by decide) ?_
  exact vx_throw0 (names := ["java/lang/RuntimeException", "java/lang/Exception"]) (ik := 140) (ic := 142) (A := fun _ => False) hx hb hl9 hown (by decide +kernel) (by decide +kernel) (hw0 (.classLink "TextKeeper" 140 "java/util/NoSuchElementException") (List.mem_of_getElem? (i := 250) rfl)) (hw0 (.initialized "java/util/NoSuchElementException") (List.mem_of_getElem? (i := 219) rfl)) tw_at tw_gd hTw.1 hTw.2 va_S.rf (by rw [hml]; exact hl.1) d_K_revision_59 d_K_revision_62 d_K_revision_63 d_K_revision_66 (fun x hx => (htab x hx).elim) (by decide +kernel) (by decide +kernel) (by decide +kernel) (by decide +kernel) hlocks (fun t hvm hz hk => ⟨(), trivial, ⟨rfl, hP.kept (fun k q hq => hk _ ((hP k q hq).lt)), va_K.moved hvm hK, hD⟩, hz, fun q h _ => hk q h⟩) (fun z hz => by cases hz) (Nat.le_refl _) (Nat.le_refl _)
set_option maxHeartbeats 4000000 in
set_option maxRecDepth 100000 in
theorem w_revision (l : Launch) (hl9 : l.stackTraces = false) (dC : Nat → ClassId) (dI : Nat → Nat → Nat) (sz : Nat) (h0 : Nat) (v_buffer : Value) (v_fetched : Value) (v_compared : Value) (v_maker : Value) (v_writer : Value) (i_madeDocuments : Int32) (i_fetchedSteps : Int32) (hp : Nat) (p_i_going : Int32) (p_i_writesLeft : Int32) (hd : Nat) (cD : ClassId) (a1 : Int32) (a2 : Int32) (a3 : Int32) (ho : Nat) : Met l y_L_revision k_L_revision ({ frames := 7, cells := 1, slots := 6, locals := 111 } : Room) (va_Pc [.ref h0, .int a1, .int a2, .int a3, .ref ho] (fun U => pc_E (dC, dI) [(h0, .inr (0, [.ref hd, v_buffer, v_fetched, v_compared, v_maker, v_writer, .ref hp, .int i_madeDocuments, .int i_fetchedSteps])), (hp, .inr (4, [.int 0, .int p_i_going, .int p_i_writesLeft])), (hd, .inl (cD, 8, .inr (.inr (.inr (.inr (fun _ => none))))))] [(cD, .object R_D)] sz U ∧ tw_ok U)) (va_Qi (fun (r : Int32) (_ : Unit) => r = 1) (fun (_ : Unit) t => at_E (dC, dI) (va_A [(h0, .inr (0, [.ref hd, v_buffer, v_fetched, v_compared, v_maker, v_writer, .ref hp, .int i_madeDocuments, .int i_fetchedSteps])), (hp, .inr (4, [.int 0, .int p_i_going, .int p_i_writesLeft])), (hd, .inl (cD, 8, .inr (.inr (.inr (.inr (fun _ => none))))))] sz) [] [] t) (va_A [(h0, .inr (0, [.ref hd, v_buffer, v_fetched, v_compared, v_maker, v_writer, .ref hp, .int i_madeDocuments, .int i_fetchedSteps])), (hp, .inr (4, [.int 0, .int p_i_going, .int p_i_writesLeft])), (hd, .inl (cD, 8, .inr (.inr (.inr (.inr (fun _ => none))))))] sz)) 1 6 (va_A [(h0, .inr (0, [.ref hd, v_buffer, v_fetched, v_compared, v_maker, v_writer, .ref hp, .int i_madeDocuments, .int i_fetchedSteps])), (hp, .inr (4, [.int 0, .int p_i_going, .int p_i_writesLeft])), (hd, .inl (cD, 8, .inr (.inr (.inr (.inr (fun _ => none))))))] sz) := by
  refine va_MetW (hh := [(0, 12, 15, 47), (0, 12, 19, 49), (0, 12, 23, 13)]) (cc := method_13_code) (maxL := 6) (ret := (some .int)) (by decide) rfl ?_
  intro p e s m args below meth c s₁ B hml hv
  obtain ⟨rfl, ⟨hsz, hP, hK, hD0, hN⟩, hTw⟩ := hv
  have hx := B.exec
  have hb := B.bytes
  have hr := B.returns
  have hts := atoms_spec (ws := k_L_revision) B.pre
  have hw0 : ∀ w ∈ w0, w.before _ s = true := fun w h => hts w (List.mem_cons_of_mem _ h)
  have hown : s.vm.findClass R_L = some m.cls := findClass_of_methodNamed B.named
  have hlocks := B.notSynchronized
  have htab := vx_table (x := y_L_revision) B (hts (.codeWith y_L_revision method_13_code 6 (some .int) [(0, 12, 15, 47), (0, 12, 19, 49), (0, 12, 23, 13)]) List.mem_cons_self)
  subst hsz
  have hD := hD0.self (sz := s.heap.size)
  generalize hAe : va_A [(h0, .inr (0, [.ref hd, v_buffer, v_fetched, v_compared, v_maker, v_writer, .ref hp, .int i_madeDocuments, .int i_fetchedSteps])), (hp, .inr (4, [.int 0, .int p_i_going, .int p_i_writesLeft])), (hd, .inl (cD, 8, .inr (.inr (.inr (.inr (fun _ => none))))))] s.heap.size = A at hD ⊢
  have hA : ∀ q : Nat, s.heap.size ≤ q → A q := fun q h => by rw [← hAe]; exact Or.inr h
  have hS : va_S A s.heap s.heap [] := va_S.rf
  have hP : va_P (dC, dI) vwCl [(h0, .inr (0, [.ref hd, v_buffer, v_fetched, v_compared, v_maker, v_writer, .ref hp, .int i_madeDocuments, .int i_fetchedSteps])), (hp, .inr (4, [.int 0, .int p_i_going, .int p_i_writesLeft])), (hd, .inl (cD, 8, .inr (.inr (.inr (.inr (fun _ => none))))))] s.heap := hP
  have hl := lv_entry ([.ref h0, .int a1, .int a2, .int a3, .ref ho]) (n := 6) (Nat.le_of_ble_eq_true rfl)
  rw [lg_entry_eq]
  generalize (lg_sl ([.ref h0, .int a1, .int a2, .int a3, .ref ho]) ++ List.replicate (6 - (lg_sl ([.ref h0, .int a1, .int a2, .int a3, .ref ho])).length) Slot.unset).toArray = ls at hl ⊢
  have hl : lv_has ls 6 [(0, .ref h0), (1, .int a1), (2, .int a2), (3, .int a3), (4, .ref ho)] := hl
  refine lv_aload hx hb d_L_revision_0 (lv_at hl 4 rfl) ?_
  refine lv_iconst (v := 0) hx hb d_L_revision_2 (by decide) ?_
  refine lv_aload_n hx hb d_L_revision_3 rfl (lv_at hl 0 rfl) ?_
  refine lv_iload_n hx hb d_L_revision_4 rfl (lv_at hl 1 rfl) ?_
  refine lv_iload_n hx hb d_L_revision_5 rfl (lv_at hl 2 rfl) ?_
  refine lv_iload_n hx hb d_L_revision_6 rfl (lv_at hl 3 rfl) ?_
  have hPc := hP.sub (ws' := [(h0, .inr (0, [.ref hd, v_buffer, v_fetched, v_compared, v_maker, v_writer, .ref hp, .int i_madeDocuments, .int i_fetchedSteps])), (hp, .inr (4, [.int 0, .int p_i_going, .int p_i_writesLeft])), (hd, .inl (cD, 8, .inr (.inr (.inr (.inr (fun _ => none))))))]) [0, 1, 2] rfl
  have hKc := hK.sub (tys' := [(cD, .object R_D)]) [0] rfl
  have hDc := hD.sub (ws' := [(h0, .inr (0, [.ref hd, v_buffer, v_fetched, v_compared, v_maker, v_writer, .ref hp, .int i_madeDocuments, .int i_fetchedSteps])), (hp, .inr (4, [.int 0, .int p_i_going, .int p_i_writesLeft])), (hd, .inl (cD, 8, .inr (.inr (.inr (.inr (fun _ => none))))))]) [0, 1, 2] (by decide) rfl
  have hFc := va_free (wc := [(h0, .inr (0, [.ref hd, v_buffer, v_fetched, v_compared, v_maker, v_writer, .ref hp, .int i_madeDocuments, .int i_fetchedSteps])), (hp, .inr (4, [.int 0, .int p_i_going, .int p_i_writesLeft])), (hd, .inl (cD, 8, .inr (.inr (.inr (.inr (fun _ => none))))))]) hD hS hA [0, 1, 2] rfl
  refine vx_calli (vx_runV (As := [.int a1, .int a2, .int a3]) (rest := [.int 0, .ref ho]) ⟨hx, hb, hml, hown, hw0⟩ (c_revision l hl9 dC dI s.heap.size h0 v_buffer v_fetched v_compared v_maker v_writer i_madeDocuments i_fetchedSteps hp p_i_going p_i_writesLeft hd cD a1 a2 a3) (cwV 3 hw0 (gd_V 268 269 270 111 271 rfl rfl rfl rfl rfl) rfl rfl rfl (by decide +kernel) ⟨by decide +kernel, by decide +kernel⟩) (prV_T hPc hKc hDc hN hTw (fun _ _ => rfl) (va_recv hKc hPc (ci := 0) (q0 := 0) rfl rfl)) rfl rfl hl.1 rfl (lv_room (Nat.le_of_ble_eq_true rfl)) d_L_revision_7 ⟨by decide +kernel, by decide +kernel⟩) hS (fun q _ h => hFc q h) hFc (fun q _ h => hFc q h) (fun E ce q9 u t H1 locs ht hvm hw hB hz1 hk1 hS hce hcv hcl => ?_) (fun r u t H1 locs ht hvm hw hB hz1 hk1 hS => False.elim hw)
  obtain ⟨rfl, hP1, hK1, hD1⟩ := hB
  rw [ht] at hP1
  refine vx_catch (name := "java/util/NoSuchElementException") hown [] ⟨0, 12, 15, 47⟩ [⟨0, 12, 19, 49⟩, ⟨0, 12, 23, 13⟩] (htab.trans rfl) (fun z hz => by cases hz) (by decide) (by decide) (hw0 (.classLink "TextKeeperLaw" 47 "java/util/NoSuchElementException") (List.mem_of_getElem? (i := 249) rfl)) (va_Nw.use rfl (hN.1 (.castable "java/util/NoSuchElementException" "java/util/NoSuchElementException") (List.mem_of_getElem? (i := 4) rfl))) hce hcv hcl ?_
  refine W.eq (g2 := F0 m 15 ls [.ref q9]) rfl ?_
  replace hP : va_P (dC, dI) vwCl [] H1 := hP1.sub (ws' := []) [] rfl
  replace hD : va_D A [] := hD.sub (ws' := []) [] (by decide) rfl
  replace hK : va_K (dC, dI) vwCl [] s := hK.sub (tys' := []) [] rfl
  generalize H1 = H at hP hS hce ⊢
  refine W.widen (k := 1) (n := 6) (by decide +kernel) (by decide +kernel) ?_
  refine lv_astore (lv' := [(5, .ref q9), (0, .ref h0), (1, .int a1), (2, .int a2), (3, .int a3), (4, .ref ho)]) hx hb d_L_revision_15 hl (by decide) rfl (fun ls hl => ?_)
  refine lv_iconst (v := 1) hx hb d_L_revision_17 (by decide) ?_
  have hP9 := hP.sub (ws' := []) [] rfl
  have hD9 := hD.sub (ws' := []) [] (by decide) rfl
  have hK9 := hK.sub (tys' := []) [] rfl
  exact W.iret (v := 1) hx hb hr (fun t ht hW => ⟨⟨1, (), rfl, rfl, by rw [ht]; exact hP9, va_K.moved hW.alike hK9, hD9⟩, hS.F ht⟩) hS.2.2 d_L_revision_18
end
section
set_option maxHeartbeats 4000000 in
set_option maxRecDepth 100000 in
theorem w_feed (l : Launch) (dC : Nat → ClassId) (dI : Nat → Nat → Nat) (sz : Nat) (h0 : Nat) (v_documents : Value) (v_fetched : Value) (v_compared : Value) (v_maker : Value) (v_writer : Value) (i_madeDocuments : Int32) (i_fetchedSteps : Int32) (hp : Nat) (p_i_going : Int32) (p_i_writesLeft : Int32) (hb1 : Nat) (hy : Nat) (cB : ClassId) (f : Nat → Int32) (a1 : Int32) (a2 : Int32) (a3 : Int32) (a4 : Int32) (a5 : Int32) (ho : Nat) (cO : ClassId) (fo : Nat → Int64)  : Met l y_L_feed k_L_feed ({ frames := 3, cells := 0, slots := 0, locals := 68 } : Room) (va_Pc [.ref h0, .int a1, .int a2, .int a3, .int a4, .int a5, .ref ho] (pc_E (dC, dI) [(h0, .inr (0, [v_documents, .ref hb1, v_fetched, v_compared, v_maker, v_writer, .ref hp, .int i_madeDocuments, .int i_fetchedSteps])), (hp, .inr (4, [.int 0, .int p_i_going, .int p_i_writesLeft])), (hb1, .inr (1, [.ref hy, .int 0])), (hy, .inl (cB, 256, .inl (f))), (ho, .inl (cO, 1, .inr (.inl (fo))))] [(cB, .byte), (cO, .long)] sz)) (va_Qi (fun (r : Int32) (_ : Unit) => r = 0) (fun (_ : Unit) t => ∃ (g : Nat → Int64), (g 0 = 1) ∧ at_E (dC, dI) (va_A [(h0, .inr (0, [v_documents, .ref hb1, v_fetched, v_compared, v_maker, v_writer, .ref hp, .int i_madeDocuments, .int i_fetchedSteps])), (hp, .inr (4, [.int 0, .int p_i_going, .int p_i_writesLeft])), (hb1, .inr (1, [.ref hy, .int 0])), (hy, .inl (cB, 256, .inl (f))), (ho, .inl (cO, 1, .inr (.inl (fo))))] sz) [(ho, .inl (cO, 1, .inr (.inl (g))))] [(cO, .long)] t) (va_A [(h0, .inr (0, [v_documents, .ref hb1, v_fetched, v_compared, v_maker, v_writer, .ref hp, .int i_madeDocuments, .int i_fetchedSteps])), (hp, .inr (4, [.int 0, .int p_i_going, .int p_i_writesLeft])), (hb1, .inr (1, [.ref hy, .int 0])), (hy, .inl (cB, 256, .inl (f))), (ho, .inl (cO, 1, .inr (.inl (fo))))] sz)) 0 0 (va_A [(h0, .inr (0, [v_documents, .ref hb1, v_fetched, v_compared, v_maker, v_writer, .ref hp, .int i_madeDocuments, .int i_fetchedSteps])), (hp, .inr (4, [.int 0, .int p_i_going, .int p_i_writesLeft])), (hb1, .inr (1, [.ref hy, .int 0])), (hy, .inl (cB, 256, .inl (f))), (ho, .inl (cO, 1, .inr (.inl (fo))))] sz) := by
  refine va_MetW (hh := [(0, 23, 26, 13)]) (cc := method_3_code) (maxL := 8) (ret := (some .int)) (by decide) rfl ?_
  intro p e s m args below meth c s₁ B hml hv
  obtain ⟨rfl, hsz, hP, hK, hD0, hN⟩ := hv
  have hx := B.exec
  have hb := B.bytes
  have hr := B.returns
  have hts := atoms_spec (ws := k_L_feed) B.pre
  have hw0 : ∀ w ∈ w0, w.before _ s = true := fun w h => hts w (List.mem_cons_of_mem _ h)
  have hown : s.vm.findClass R_L = some m.cls := findClass_of_methodNamed B.named
  have hlocks := B.notSynchronized
  subst hsz
  have hD := hD0.self (sz := s.heap.size)
  generalize hAe : va_A [(h0, .inr (0, [v_documents, .ref hb1, v_fetched, v_compared, v_maker, v_writer, .ref hp, .int i_madeDocuments, .int i_fetchedSteps])), (hp, .inr (4, [.int 0, .int p_i_going, .int p_i_writesLeft])), (hb1, .inr (1, [.ref hy, .int 0])), (hy, .inl (cB, 256, .inl (f))), (ho, .inl (cO, 1, .inr (.inl (fo))))] s.heap.size = A at hD ⊢
  have hA : ∀ q : Nat, s.heap.size ≤ q → A q := fun q h => by rw [← hAe]; exact Or.inr h
  have hS : va_S A s.heap s.heap [] := va_S.rf
  have hP : va_P (dC, dI) vwCl [(h0, .inr (0, [v_documents, .ref hb1, v_fetched, v_compared, v_maker, v_writer, .ref hp, .int i_madeDocuments, .int i_fetchedSteps])), (hp, .inr (4, [.int 0, .int p_i_going, .int p_i_writesLeft])), (hb1, .inr (1, [.ref hy, .int 0])), (hy, .inl (cB, 256, .inl (f))), (ho, .inl (cO, 1, .inr (.inl (fo))))] s.heap := hP
  have hl := lv_entry ([.ref h0, .int a1, .int a2, .int a3, .int a4, .int a5, .ref ho]) (n := 8) (Nat.le_of_ble_eq_true rfl)
  rw [lg_entry_eq]
  generalize (lg_sl ([.ref h0, .int a1, .int a2, .int a3, .int a4, .int a5, .ref ho]) ++ List.replicate (8 - (lg_sl ([.ref h0, .int a1, .int a2, .int a3, .int a4, .int a5, .ref ho])).length) Slot.unset).toArray = ls at hl ⊢
  have hl : lv_has ls 8 [(0, .ref h0), (1, .int a1), (2, .int a2), (3, .int a3), (4, .int a4), (5, .int a5), (6, .ref ho)] := hl
  refine lv_aload hx hb d_L_feed_0 (lv_at hl 6 rfl) ?_
  refine lv_iconst (v := 0) hx hb d_L_feed_2 (by decide) ?_
  refine lv_aload_n hx hb d_L_feed_3 rfl (lv_at hl 0 rfl) ?_
  refine lv_iload_n hx hb d_L_feed_4 rfl (lv_at hl 1 rfl) ?_
  refine lv_iload_n hx hb d_L_feed_5 rfl (lv_at hl 2 rfl) ?_
  refine lv_iload_n hx hb d_L_feed_6 rfl (lv_at hl 3 rfl) ?_
  refine lv_iload hx hb d_L_feed_7 (lv_at hl 4 rfl) ?_
  refine lv_iload hx hb d_L_feed_9 (lv_at hl 5 rfl) ?_
  have hPc := hP.sub (ws' := [(h0, .inr (0, [v_documents, .ref hb1, v_fetched, v_compared, v_maker, v_writer, .ref hp, .int i_madeDocuments, .int i_fetchedSteps])), (hp, .inr (4, [.int 0, .int p_i_going, .int p_i_writesLeft])), (hb1, .inr (1, [.ref hy, .int 0])), (hy, .inl (cB, 256, .inl ((f))))]) [0, 1, 2, 3] rfl
  have hKc := hK.sub (tys' := [(cB, .byte)]) [0] rfl
  have hDc := hD.sub (ws' := [(h0, .inr (0, [v_documents, .ref hb1, v_fetched, v_compared, v_maker, v_writer, .ref hp, .int i_madeDocuments, .int i_fetchedSteps])), (hp, .inr (4, [.int 0, .int p_i_going, .int p_i_writesLeft])), (hb1, .inr (1, [.ref hy, .int 0])), (hy, .inl (cB, 256, .inl ((f))))]) [0, 1, 2, 3] (by decide) rfl
  have hFc := va_free (wc := [(h0, .inr (0, [v_documents, .ref hb1, v_fetched, v_compared, v_maker, v_writer, .ref hp, .int i_madeDocuments, .int i_fetchedSteps])), (hp, .inr (4, [.int 0, .int p_i_going, .int p_i_writesLeft])), (hb1, .inr (1, [.ref hy, .int 0])), (hy, .inl (cB, 256, .inl ((f))))]) hD hS hA [0, 1, 2, 3] rfl
  refine va_calli (va_runV (As := [.int a1, .int a2, .int a3, .int a4, .int a5]) (rest := [.int 0, .ref ho]) ⟨hx, hb, hml, hown, hw0⟩ (c_feed l dC dI s.heap.size h0 v_documents v_fetched v_compared v_maker v_writer i_madeDocuments i_fetchedSteps hp p_i_going p_i_writesLeft hb1 hy cB (f) a1 a2 a3 a4 a5) (cwV 5 hw0 (gd_V 272 273 274 111 275 rfl rfl rfl rfl rfl) rfl rfl rfl (by decide +kernel) ⟨by decide +kernel, by decide +kernel⟩) (prV_E hPc hKc hDc hN (va_recv hKc hPc (ci := 0) (q0 := 0) rfl rfl)) rfl rfl hl.1 rfl (lv_room (Nat.le_of_ble_eq_true rfl)) d_L_feed_11 ⟨by decide +kernel, by decide +kernel⟩) hS (fun q _ h => hFc q h) hFc (fun r_1 u t H1 locs ht hvm hw hB hz1 hk1 hS => ?_)
  obtain ⟨hP1, hK1, hD1⟩ := hB
  rw [ht] at hP1
  have hK1 := va_K.moved hvm.symm hK1
  try dsimp only at hw
  obtain ⟨hP, hD⟩ := va_join (wr := [(ho, .inl (cO, 1, .inr (.inl (fo))))]) (w1 := []) hP hD [0, 1, 2, 3] [4] rfl rfl (by decide) (by decide) hk1 hFc hP1 hD1
  generalize H1 = H at hP hS ⊢
  replace hP : va_P (dC, dI) vwCl [(ho, .inl (cO, 1, .inr (.inl (fo))))] H := hP
  replace hD : va_D A [(ho, .inl (cO, 1, .inr (.inl (fo))))] := hD
  replace hK : va_K (dC, dI) vwCl [(cB, .byte), (cO, .long)] s := hK
  obtain rfl : r_1 = 1 := hw
  refine lv_if_eq (tgt := 21) hx hb d_L_feed_14 (by decide) (fun h9 => absurd h9 (by decide +kernel)) (fun _ => ?_)
  refine lv_lconst (v := 1) hx hb d_L_feed_17 (by decide) ?_
  refine lv_goto (tgt := 22) hx hb d_L_feed_18 (by decide) ?_
  refine va_last hx hb hK hP hD hS 0 1 rfl rfl (by unfold vp_in; decide +kernel) d_L_feed_22 (fun H locs hP hD hS => ?_)
  replace hP : va_P (dC, dI) vwCl [(ho, .inl (cO, 1, .inr (.inl (vp_updL (fo) (Int32.toNatClampNeg 0) (1)))))] H := hP
  replace hD : va_D A [(ho, .inl (cO, 1, .inr (.inl (vp_updL (fo) (Int32.toNatClampNeg 0) (1)))))] := hD
  refine lv_goto (tgt := 30) hx hb d_L_feed_23 (by decide) ?_
  refine lv_iconst (v := 0) hx hb d_L_feed_30 (by decide) ?_
  have hP9 := hP.sub (ws' := [(ho, .inl (cO, 1, .inr (.inl ((vp_updL (fo) (Int32.toNatClampNeg 0) (1))))))]) [0] rfl
  have hD9 := hD.sub (ws' := [(ho, .inl (cO, 1, .inr (.inl ((vp_updL (fo) (Int32.toNatClampNeg 0) (1))))))]) [0] (by decide) rfl
  have hK9 := hK.sub (tys' := [(cO, .long)]) [1] rfl
  exact W.iret (v := 0) hx hb hr (fun t ht hW => ⟨⟨0, (), rfl, rfl, (vp_updL (fo) (Int32.toNatClampNeg 0) (1)), x_up0, by rw [ht]; exact hP9, va_K.moved hW.alike hK9, hD9⟩, hS.F ht⟩) hS.2.2 d_L_feed_31
set_option maxHeartbeats 4000000 in
set_option maxRecDepth 100000 in
theorem w_end_T (l : Launch) (dC : Nat → ClassId) (dI : Nat → Nat → Nat) (sz : Nat) (h0 : Nat) (v_documents : Value) (v_fetched : Value) (v_compared : Value) (v_maker : Value) (v_writer : Value) (i_madeDocuments : Int32) (i_fetchedSteps : Int32) (hp : Nat) (p_i_going : Int32) (p_i_writesLeft : Int32) (hb1 : Nat) (hy : Value) (a1 : Int32) (ho : Nat) (cO : ClassId) (fo : Nat → Int64) (h1 : ¬ a1 < 0) (h2 : ¬ 0 < a1) : Met l y_L_end k_L_end ({ frames := 2, cells := 0, slots := 0, locals := 42 } : Room) (va_Pc [.ref h0, .int a1, .ref ho] (pc_E (dC, dI) [(h0, .inr (0, [v_documents, .ref hb1, v_fetched, v_compared, v_maker, v_writer, .ref hp, .int i_madeDocuments, .int i_fetchedSteps])), (hp, .inr (4, [.int 0, .int p_i_going, .int p_i_writesLeft])), (hb1, .inr (1, [hy, .int 0])), (ho, .inl (cO, 1, .inr (.inl (fo))))] [(cO, .long)] sz)) (va_Qi (fun (r : Int32) (_ : Unit) => r = 0) (fun (_ : Unit) t => ∃ (g : Nat → Int64), (g 0 = 1) ∧ at_E (dC, dI) (va_A [(h0, .inr (0, [v_documents, .ref hb1, v_fetched, v_compared, v_maker, v_writer, .ref hp, .int i_madeDocuments, .int i_fetchedSteps])), (hp, .inr (4, [.int 0, .int p_i_going, .int p_i_writesLeft])), (hb1, .inr (1, [hy, .int 0])), (ho, .inl (cO, 1, .inr (.inl (fo))))] sz) [(ho, .inl (cO, 1, .inr (.inl (g))))] [(cO, .long)] t) (va_A [(h0, .inr (0, [v_documents, .ref hb1, v_fetched, v_compared, v_maker, v_writer, .ref hp, .int i_madeDocuments, .int i_fetchedSteps])), (hp, .inr (4, [.int 0, .int p_i_going, .int p_i_writesLeft])), (hb1, .inr (1, [hy, .int 0])), (ho, .inl (cO, 1, .inr (.inl (fo))))] sz)) 0 0 (va_A [(h0, .inr (0, [v_documents, .ref hb1, v_fetched, v_compared, v_maker, v_writer, .ref hp, .int i_madeDocuments, .int i_fetchedSteps])), (hp, .inr (4, [.int 0, .int p_i_going, .int p_i_writesLeft])), (hb1, .inr (1, [hy, .int 0])), (ho, .inl (cO, 1, .inr (.inl (fo))))] sz) := by
  refine va_MetW (hh := [(0, 16, 19, 13)]) (cc := method_4_code) (maxL := 4) (ret := (some .int)) (by decide) rfl ?_
  intro p e s m args below meth c s₁ B hml hv
  obtain ⟨rfl, hsz, hP, hK, hD0, hN⟩ := hv
  have hx := B.exec
  have hb := B.bytes
  have hr := B.returns
  have hts := atoms_spec (ws := k_L_end) B.pre
  have hw0 : ∀ w ∈ w0, w.before _ s = true := fun w h => hts w (List.mem_cons_of_mem _ h)
  have hown : s.vm.findClass R_L = some m.cls := findClass_of_methodNamed B.named
  have hlocks := B.notSynchronized
  subst hsz
  have hD := hD0.self (sz := s.heap.size)
  generalize hAe : va_A [(h0, .inr (0, [v_documents, .ref hb1, v_fetched, v_compared, v_maker, v_writer, .ref hp, .int i_madeDocuments, .int i_fetchedSteps])), (hp, .inr (4, [.int 0, .int p_i_going, .int p_i_writesLeft])), (hb1, .inr (1, [hy, .int 0])), (ho, .inl (cO, 1, .inr (.inl (fo))))] s.heap.size = A at hD ⊢
  have hA : ∀ q : Nat, s.heap.size ≤ q → A q := fun q h => by rw [← hAe]; exact Or.inr h
  have hS : va_S A s.heap s.heap [] := va_S.rf
  have hP : va_P (dC, dI) vwCl [(h0, .inr (0, [v_documents, .ref hb1, v_fetched, v_compared, v_maker, v_writer, .ref hp, .int i_madeDocuments, .int i_fetchedSteps])), (hp, .inr (4, [.int 0, .int p_i_going, .int p_i_writesLeft])), (hb1, .inr (1, [hy, .int 0])), (ho, .inl (cO, 1, .inr (.inl (fo))))] s.heap := hP
  have hl := lv_entry ([.ref h0, .int a1, .ref ho]) (n := 4) (Nat.le_of_ble_eq_true rfl)
  rw [lg_entry_eq]
  generalize (lg_sl ([.ref h0, .int a1, .ref ho]) ++ List.replicate (4 - (lg_sl ([.ref h0, .int a1, .ref ho])).length) Slot.unset).toArray = ls at hl ⊢
  have hl : lv_has ls 4 [(0, .ref h0), (1, .int a1), (2, .ref ho)] := hl
  refine lv_aload_n hx hb d_L_end_0 rfl (lv_at hl 2 rfl) ?_
  refine lv_iconst (v := 0) hx hb d_L_end_1 (by decide) ?_
  refine lv_aload_n hx hb d_L_end_2 rfl (lv_at hl 0 rfl) ?_
  refine lv_iload_n hx hb d_L_end_3 rfl (lv_at hl 1 rfl) ?_
  have hPc := hP.sub (ws' := [(h0, .inr (0, [v_documents, .ref hb1, v_fetched, v_compared, v_maker, v_writer, .ref hp, .int i_madeDocuments, .int i_fetchedSteps])), (hp, .inr (4, [.int 0, .int p_i_going, .int p_i_writesLeft])), (hb1, .inr (1, [hy, .int 0]))]) [0, 1, 2] rfl
  have hKc := hK.sub (tys' := []) [] rfl
  have hDc := hD.sub (ws' := [(h0, .inr (0, [v_documents, .ref hb1, v_fetched, v_compared, v_maker, v_writer, .ref hp, .int i_madeDocuments, .int i_fetchedSteps])), (hp, .inr (4, [.int 0, .int p_i_going, .int p_i_writesLeft])), (hb1, .inr (1, [hy, .int 0]))]) [0, 1, 2] (by decide) rfl
  have hFc := va_free (wc := [(h0, .inr (0, [v_documents, .ref hb1, v_fetched, v_compared, v_maker, v_writer, .ref hp, .int i_madeDocuments, .int i_fetchedSteps])), (hp, .inr (4, [.int 0, .int p_i_going, .int p_i_writesLeft])), (hb1, .inr (1, [hy, .int 0]))]) hD hS hA [0, 1, 2] rfl
  refine va_calli (va_runV (As := [.int a1]) (rest := [.int 0, .ref ho]) ⟨hx, hb, hml, hown, hw0⟩ (c_end_T l dC dI s.heap.size h0 v_documents v_fetched v_compared v_maker v_writer i_madeDocuments i_fetchedSteps hp p_i_going p_i_writesLeft hb1 hy a1 (by first | assumption | decide | omega) (by first | assumption | decide | omega)) (cwV 1 hw0 (gd_V 276 277 278 111 279 rfl rfl rfl rfl rfl) rfl rfl rfl (by decide +kernel) ⟨by decide +kernel, by decide +kernel⟩) (prV_E hPc hKc hDc hN (va_recv hKc hPc (ci := 0) (q0 := 0) rfl rfl)) rfl rfl hl.1 rfl (lv_room (Nat.le_of_ble_eq_true rfl)) d_L_end_4 ⟨by decide +kernel, by decide +kernel⟩) hS (fun q _ h => hFc q h) hFc (fun r_1 u t H1 locs ht hvm hw hB hz1 hk1 hS => ?_)
  obtain ⟨hP1, hK1, hD1⟩ := hB
  rw [ht] at hP1
  have hK1 := va_K.moved hvm.symm hK1
  try dsimp only at hw
  obtain ⟨hP, hD⟩ := va_join (wr := [(ho, .inl (cO, 1, .inr (.inl (fo))))]) (w1 := []) hP hD [0, 1, 2] [3] rfl rfl (by decide) (by decide) hk1 hFc hP1 hD1
  generalize H1 = H at hP hS ⊢
  replace hP : va_P (dC, dI) vwCl [(ho, .inl (cO, 1, .inr (.inl (fo))))] H := hP
  replace hD : va_D A [(ho, .inl (cO, 1, .inr (.inl (fo))))] := hD
  replace hK : va_K (dC, dI) vwCl [(cO, .long)] s := hK
  obtain rfl : r_1 = 1 := hw
  refine lv_if_eq (tgt := 14) hx hb d_L_end_7 (by decide) (fun h9 => absurd h9 (by decide +kernel)) (fun _ => ?_)
  refine lv_lconst (v := 1) hx hb d_L_end_10 (by decide) ?_
  refine lv_goto (tgt := 15) hx hb d_L_end_11 (by decide) ?_
  refine va_last hx hb hK hP hD hS 0 0 rfl rfl (by unfold vp_in; decide +kernel) d_L_end_15 (fun H locs hP hD hS => ?_)
  replace hP : va_P (dC, dI) vwCl [(ho, .inl (cO, 1, .inr (.inl (vp_updL (fo) (Int32.toNatClampNeg 0) (1)))))] H := hP
  replace hD : va_D A [(ho, .inl (cO, 1, .inr (.inl (vp_updL (fo) (Int32.toNatClampNeg 0) (1)))))] := hD
  refine lv_goto (tgt := 22) hx hb d_L_end_16 (by decide) ?_
  refine lv_iconst (v := 0) hx hb d_L_end_22 (by decide) ?_
  have hP9 := hP.sub (ws' := [(ho, .inl (cO, 1, .inr (.inl ((vp_updL (fo) (Int32.toNatClampNeg 0) (1))))))]) [0] rfl
  have hD9 := hD.sub (ws' := [(ho, .inl (cO, 1, .inr (.inl ((vp_updL (fo) (Int32.toNatClampNeg 0) (1))))))]) [0] (by decide) rfl
  have hK9 := hK.sub (tys' := [(cO, .long)]) [0] rfl
  exact W.iret (v := 0) hx hb hr (fun t ht hW => ⟨⟨0, (), rfl, rfl, (vp_updL (fo) (Int32.toNatClampNeg 0) (1)), x_up0, by rw [ht]; exact hP9, va_K.moved hW.alike hK9, hD9⟩, hS.F ht⟩) hS.2.2 d_L_end_23
set_option maxHeartbeats 4000000 in
set_option maxRecDepth 100000 in
theorem w_end_F (l : Launch) (dC : Nat → ClassId) (dI : Nat → Nat → Nat) (sz : Nat) (h0 : Nat) (v_documents : Value) (v_fetched : Value) (v_compared : Value) (v_maker : Value) (v_writer : Value) (i_madeDocuments : Int32) (i_fetchedSteps : Int32) (hp : Nat) (p_i_going : Int32) (p_i_writesLeft : Int32) (hb1 : Nat) (hy : Value) (a1 : Int32) (ho : Nat) (cO : ClassId) (fo : Nat → Int64) (h1 : a1 < 0 ∨ 0 < a1) : Met l y_L_end k_L_end ({ frames := 2, cells := 0, slots := 0, locals := 42 } : Room) (va_Pc [.ref h0, .int a1, .ref ho] (pc_E (dC, dI) [(h0, .inr (0, [v_documents, .ref hb1, v_fetched, v_compared, v_maker, v_writer, .ref hp, .int i_madeDocuments, .int i_fetchedSteps])), (hp, .inr (4, [.int 0, .int p_i_going, .int p_i_writesLeft])), (hb1, .inr (1, [hy, .int 0])), (ho, .inl (cO, 1, .inr (.inl (fo))))] [(cO, .long)] sz)) (va_Qi (fun (r : Int32) (_ : Unit) => r = 0) (fun (_ : Unit) t => ∃ (g : Nat → Int64), (g 0 = 0) ∧ at_E (dC, dI) (va_A [(h0, .inr (0, [v_documents, .ref hb1, v_fetched, v_compared, v_maker, v_writer, .ref hp, .int i_madeDocuments, .int i_fetchedSteps])), (hp, .inr (4, [.int 0, .int p_i_going, .int p_i_writesLeft])), (hb1, .inr (1, [hy, .int 0])), (ho, .inl (cO, 1, .inr (.inl (fo))))] sz) [(ho, .inl (cO, 1, .inr (.inl (g))))] [(cO, .long)] t) (va_A [(h0, .inr (0, [v_documents, .ref hb1, v_fetched, v_compared, v_maker, v_writer, .ref hp, .int i_madeDocuments, .int i_fetchedSteps])), (hp, .inr (4, [.int 0, .int p_i_going, .int p_i_writesLeft])), (hb1, .inr (1, [hy, .int 0])), (ho, .inl (cO, 1, .inr (.inl (fo))))] sz)) 0 0 (va_A [(h0, .inr (0, [v_documents, .ref hb1, v_fetched, v_compared, v_maker, v_writer, .ref hp, .int i_madeDocuments, .int i_fetchedSteps])), (hp, .inr (4, [.int 0, .int p_i_going, .int p_i_writesLeft])), (hb1, .inr (1, [hy, .int 0])), (ho, .inl (cO, 1, .inr (.inl (fo))))] sz) := by
  refine va_MetW (hh := [(0, 16, 19, 13)]) (cc := method_4_code) (maxL := 4) (ret := (some .int)) (by decide) rfl ?_
  intro p e s m args below meth c s₁ B hml hv
  obtain ⟨rfl, hsz, hP, hK, hD0, hN⟩ := hv
  have hx := B.exec
  have hb := B.bytes
  have hr := B.returns
  have hts := atoms_spec (ws := k_L_end) B.pre
  have hw0 : ∀ w ∈ w0, w.before _ s = true := fun w h => hts w (List.mem_cons_of_mem _ h)
  have hown : s.vm.findClass R_L = some m.cls := findClass_of_methodNamed B.named
  have hlocks := B.notSynchronized
  subst hsz
  have hD := hD0.self (sz := s.heap.size)
  generalize hAe : va_A [(h0, .inr (0, [v_documents, .ref hb1, v_fetched, v_compared, v_maker, v_writer, .ref hp, .int i_madeDocuments, .int i_fetchedSteps])), (hp, .inr (4, [.int 0, .int p_i_going, .int p_i_writesLeft])), (hb1, .inr (1, [hy, .int 0])), (ho, .inl (cO, 1, .inr (.inl (fo))))] s.heap.size = A at hD ⊢
  have hA : ∀ q : Nat, s.heap.size ≤ q → A q := fun q h => by rw [← hAe]; exact Or.inr h
  have hS : va_S A s.heap s.heap [] := va_S.rf
  have hP : va_P (dC, dI) vwCl [(h0, .inr (0, [v_documents, .ref hb1, v_fetched, v_compared, v_maker, v_writer, .ref hp, .int i_madeDocuments, .int i_fetchedSteps])), (hp, .inr (4, [.int 0, .int p_i_going, .int p_i_writesLeft])), (hb1, .inr (1, [hy, .int 0])), (ho, .inl (cO, 1, .inr (.inl (fo))))] s.heap := hP
  have hl := lv_entry ([.ref h0, .int a1, .ref ho]) (n := 4) (Nat.le_of_ble_eq_true rfl)
  rw [lg_entry_eq]
  generalize (lg_sl ([.ref h0, .int a1, .ref ho]) ++ List.replicate (4 - (lg_sl ([.ref h0, .int a1, .ref ho])).length) Slot.unset).toArray = ls at hl ⊢
  have hl : lv_has ls 4 [(0, .ref h0), (1, .int a1), (2, .ref ho)] := hl
  refine lv_aload_n hx hb d_L_end_0 rfl (lv_at hl 2 rfl) ?_
  refine lv_iconst (v := 0) hx hb d_L_end_1 (by decide) ?_
  refine lv_aload_n hx hb d_L_end_2 rfl (lv_at hl 0 rfl) ?_
  refine lv_iload_n hx hb d_L_end_3 rfl (lv_at hl 1 rfl) ?_
  have hPc := hP.sub (ws' := [(h0, .inr (0, [v_documents, .ref hb1, v_fetched, v_compared, v_maker, v_writer, .ref hp, .int i_madeDocuments, .int i_fetchedSteps])), (hp, .inr (4, [.int 0, .int p_i_going, .int p_i_writesLeft])), (hb1, .inr (1, [hy, .int 0]))]) [0, 1, 2] rfl
  have hKc := hK.sub (tys' := []) [] rfl
  refine ps_i (va_runV (As := [.int a1]) (rest := [.int 0, .ref ho]) ⟨hx, hb, hml, hown, hw0⟩ (c_end_F l dC dI h0 v_documents v_fetched v_compared v_maker v_writer i_madeDocuments i_fetchedSteps hp p_i_going p_i_writesLeft hb1 hy a1 (by first | assumption | decide | omega)) (cwV 1 hw0 (gd_V 276 277 278 111 279 rfl rfl rfl rfl rfl) rfl rfl rfl (by decide +kernel) ⟨by decide +kernel, by decide +kernel⟩) (prV_R hPc hKc hN (va_recv hKc hPc (ci := 0) (q0 := 0) rfl rfl)) rfl rfl hl.1 rfl (lv_room (Nat.le_of_ble_eq_true rfl)) d_L_end_4 ⟨by decide +kernel, by decide +kernel⟩) (fun r_1 hr_1 => ?_)
  obtain rfl : r_1 = 0 := hr_1
  refine lv_if_eq (tgt := 14) hx hb d_L_end_7 (by decide) (fun _ => ?_) (fun h9 => absurd h9 (by decide +kernel))
  refine lv_lconst (v := 0) hx hb d_L_end_14 (by decide) ?_
  refine va_last hx hb hK hP hD hS 3 0 rfl rfl (by unfold vp_in; decide +kernel) d_L_end_15 (fun H locs hP hD hS => ?_)
  replace hP : va_P (dC, dI) vwCl [(h0, .inr (0, [v_documents, .ref hb1, v_fetched, v_compared, v_maker, v_writer, .ref hp, .int i_madeDocuments, .int i_fetchedSteps])), (hp, .inr (4, [.int 0, .int p_i_going, .int p_i_writesLeft])), (hb1, .inr (1, [hy, .int 0])), (ho, .inl (cO, 1, .inr (.inl (vp_updL (fo) (Int32.toNatClampNeg 0) (0)))))] H := hP
  replace hD : va_D A [(h0, .inr (0, [v_documents, .ref hb1, v_fetched, v_compared, v_maker, v_writer, .ref hp, .int i_madeDocuments, .int i_fetchedSteps])), (hp, .inr (4, [.int 0, .int p_i_going, .int p_i_writesLeft])), (hb1, .inr (1, [hy, .int 0])), (ho, .inl (cO, 1, .inr (.inl (vp_updL (fo) (Int32.toNatClampNeg 0) (0)))))] := hD
  refine lv_goto (tgt := 22) hx hb d_L_end_16 (by decide) ?_
  refine lv_iconst (v := 0) hx hb d_L_end_22 (by decide) ?_
  have hP9 := hP.sub (ws' := [(ho, .inl (cO, 1, .inr (.inl ((vp_updL (fo) (Int32.toNatClampNeg 0) (0))))))]) [3] rfl
  have hD9 := hD.sub (ws' := [(ho, .inl (cO, 1, .inr (.inl ((vp_updL (fo) (Int32.toNatClampNeg 0) (0))))))]) [3] (by decide) rfl
  have hK9 := hK.sub (tys' := [(cO, .long)]) [0] rfl
  exact W.iret (v := 0) hx hb hr (fun t ht hW => ⟨⟨0, (), rfl, rfl, (vp_updL (fo) (Int32.toNatClampNeg 0) (0)), x_up0, by rw [ht]; exact hP9, va_K.moved hW.alike hK9, hD9⟩, hS.F ht⟩) hS.2.2 d_L_end_23
set_option maxHeartbeats 4000000 in
set_option maxRecDepth 100000 in
theorem w_make (l : Launch) (dC : Nat → ClassId) (dI : Nat → Nat → Nat) (sz : Nat) (h0 : Nat) (v_buffer : Value) (v_fetched : Value) (v_compared : Value) (v_maker : Value) (v_writer : Value) (i_fetchedSteps : Int32) (hp : Nat) (p_i_writesLeft : Int32) (hd : Nat) (cD : ClassId) (ho : Nat) (cO : ClassId) (fo : Nat → Int64)  : Met l y_L_make k_L_make ({ frames := 3, cells := 2, slots := 67, locals := 63 } : Room) (va_Pc [.ref h0, .ref ho] (pc_E (dC, dI) [(h0, .inr (0, [.ref hd, v_buffer, v_fetched, v_compared, v_maker, v_writer, .ref hp, .int 0, .int i_fetchedSteps])), (hp, .inr (4, [.int 0, .int 0, .int p_i_writesLeft])), (hd, .inl (cD, 8, .inr (.inr (.inr (.inr (fun _ => none)))))), (ho, .inl (cO, 1, .inr (.inl (fo))))] [(cD, .object R_D), (cO, .long)] sz)) (va_Qi (fun (r : Int32) (_ : Unit) => r = 0) (fun (_ : Unit) t => ∃ (g : Nat → Int64), (g 0 = 0) ∧ at_E (dC, dI) (va_A [(h0, .inr (0, [.ref hd, v_buffer, v_fetched, v_compared, v_maker, v_writer, .ref hp, .int 0, .int i_fetchedSteps])), (hp, .inr (4, [.int 0, .int 0, .int p_i_writesLeft])), (hd, .inl (cD, 8, .inr (.inr (.inr (.inr (fun _ => none)))))), (ho, .inl (cO, 1, .inr (.inl (fo))))] sz) [(ho, .inl (cO, 1, .inr (.inl (g))))] [(cO, .long)] t) (va_A [(h0, .inr (0, [.ref hd, v_buffer, v_fetched, v_compared, v_maker, v_writer, .ref hp, .int 0, .int i_fetchedSteps])), (hp, .inr (4, [.int 0, .int 0, .int p_i_writesLeft])), (hd, .inl (cD, 8, .inr (.inr (.inr (.inr (fun _ => none)))))), (ho, .inl (cO, 1, .inr (.inl (fo))))] sz)) 2 67 (va_A [(h0, .inr (0, [.ref hd, v_buffer, v_fetched, v_compared, v_maker, v_writer, .ref hp, .int 0, .int i_fetchedSteps])), (hp, .inr (4, [.int 0, .int 0, .int p_i_writesLeft])), (hd, .inl (cD, 8, .inr (.inr (.inr (.inr (fun _ => none)))))), (ho, .inl (cO, 1, .inr (.inl (fo))))] sz) := by
  refine va_MetW (hh := [(0, 8, 11, 13)]) (cc := method_5_code) (maxL := 3) (ret := (some .int)) (by decide) rfl ?_
  intro p e s m args below meth c s₁ B hml hv
  obtain ⟨rfl, hsz, hP, hK, hD0, hN⟩ := hv
  have hx := B.exec
  have hb := B.bytes
  have hr := B.returns
  have hts := atoms_spec (ws := k_L_make) B.pre
  have hw0 : ∀ w ∈ w0, w.before _ s = true := fun w h => hts w (List.mem_cons_of_mem _ h)
  have hown : s.vm.findClass R_L = some m.cls := findClass_of_methodNamed B.named
  have hlocks := B.notSynchronized
  subst hsz
  have hD := hD0.self (sz := s.heap.size)
  generalize hAe : va_A [(h0, .inr (0, [.ref hd, v_buffer, v_fetched, v_compared, v_maker, v_writer, .ref hp, .int 0, .int i_fetchedSteps])), (hp, .inr (4, [.int 0, .int 0, .int p_i_writesLeft])), (hd, .inl (cD, 8, .inr (.inr (.inr (.inr (fun _ => none)))))), (ho, .inl (cO, 1, .inr (.inl (fo))))] s.heap.size = A at hD ⊢
  have hA : ∀ q : Nat, s.heap.size ≤ q → A q := fun q h => by rw [← hAe]; exact Or.inr h
  have hS : va_S A s.heap s.heap [] := va_S.rf
  have hP : va_P (dC, dI) vwCl [(h0, .inr (0, [.ref hd, v_buffer, v_fetched, v_compared, v_maker, v_writer, .ref hp, .int 0, .int i_fetchedSteps])), (hp, .inr (4, [.int 0, .int 0, .int p_i_writesLeft])), (hd, .inl (cD, 8, .inr (.inr (.inr (.inr (fun _ => none)))))), (ho, .inl (cO, 1, .inr (.inl (fo))))] s.heap := hP
  have hl := lv_entry ([.ref h0, .ref ho]) (n := 3) (Nat.le_of_ble_eq_true rfl)
  rw [lg_entry_eq]
  generalize (lg_sl ([.ref h0, .ref ho]) ++ List.replicate (3 - (lg_sl ([.ref h0, .ref ho])).length) Slot.unset).toArray = ls at hl ⊢
  have hl : lv_has ls 3 [(0, .ref h0), (1, .ref ho)] := hl
  refine lv_aload_n hx hb d_L_make_0 rfl (lv_at hl 1 rfl) ?_
  refine lv_iconst (v := 0) hx hb d_L_make_1 (by decide) ?_
  refine lv_aload_n hx hb d_L_make_2 rfl (lv_at hl 0 rfl) ?_
  have hPc := hP.sub (ws' := [(h0, .inr (0, [.ref hd, v_buffer, v_fetched, v_compared, v_maker, v_writer, .ref hp, .int 0, .int i_fetchedSteps])), (hp, .inr (4, [.int 0, .int 0, .int p_i_writesLeft])), (hd, .inl (cD, 8, .inr (.inr (.inr (.inr (fun _ => none))))))]) [0, 1, 2] rfl
  have hKc := hK.sub (tys' := [(cD, .object R_D)]) [0] rfl
  have hDc := hD.sub (ws' := [(h0, .inr (0, [.ref hd, v_buffer, v_fetched, v_compared, v_maker, v_writer, .ref hp, .int 0, .int i_fetchedSteps])), (hp, .inr (4, [.int 0, .int 0, .int p_i_writesLeft])), (hd, .inl (cD, 8, .inr (.inr (.inr (.inr (fun _ => none))))))]) [0, 1, 2] (by decide) rfl
  have hFc := va_free (wc := [(h0, .inr (0, [.ref hd, v_buffer, v_fetched, v_compared, v_maker, v_writer, .ref hp, .int 0, .int i_fetchedSteps])), (hp, .inr (4, [.int 0, .int 0, .int p_i_writesLeft])), (hd, .inl (cD, 8, .inr (.inr (.inr (.inr (fun _ => none))))))]) hD hS hA [0, 1, 2] rfl
  refine va_calli (va_runV (As := []) (rest := [.int 0, .ref ho]) ⟨hx, hb, hml, hown, hw0⟩ (c_make l dC dI s.heap.size h0 v_buffer v_fetched v_compared v_maker v_writer i_fetchedSteps hp p_i_writesLeft hd cD) (cwV 0 hw0 (gd_V 280 281 282 111 283 rfl rfl rfl rfl rfl) rfl rfl rfl (by decide +kernel) ⟨by decide +kernel, by decide +kernel⟩) (prV_E hPc hKc hDc hN (va_recv hKc hPc (ci := 0) (q0 := 0) rfl rfl)) rfl rfl hl.1 rfl (lv_room (Nat.le_of_ble_eq_true rfl)) d_L_make_3 ⟨by decide +kernel, by decide +kernel⟩) hS (fun q _ h => hFc q h) hFc (fun r_1 u t H1 locs ht hvm hw hB hz1 hk1 hS => ?_)
  obtain ⟨hP1, hK1, hD1⟩ := hB
  rw [ht] at hP1
  have hK1 := va_K.moved hvm.symm hK1
  try dsimp only at hw
  obtain ⟨hP, hD⟩ := va_join (wr := [(ho, .inl (cO, 1, .inr (.inl (fo))))]) (w1 := []) hP hD [0, 1, 2] [3] rfl rfl (by decide) (by decide) hk1 hFc hP1 hD1
  generalize H1 = H at hP hS ⊢
  replace hP : va_P (dC, dI) vwCl [(ho, .inl (cO, 1, .inr (.inl (fo))))] H := hP
  replace hD : va_D A [(ho, .inl (cO, 1, .inr (.inl (fo))))] := hD
  replace hK : va_K (dC, dI) vwCl [(cD, .object R_D), (cO, .long)] s := hK
  refine W.widen (k := 2) (n := 67) (by decide +kernel) (by decide +kernel) ?_
  obtain rfl : r_1 = 0 := hw
  refine lv_i2l (v := 0) hx hb d_L_make_6 (by decide +kernel) ?_
  refine va_last hx hb hK hP hD hS 0 1 rfl rfl (by unfold vp_in; decide +kernel) d_L_make_7 (fun H locs hP hD hS => ?_)
  replace hP : va_P (dC, dI) vwCl [(ho, .inl (cO, 1, .inr (.inl (vp_updL (fo) (Int32.toNatClampNeg 0) (0)))))] H := hP
  replace hD : va_D A [(ho, .inl (cO, 1, .inr (.inl (vp_updL (fo) (Int32.toNatClampNeg 0) (0)))))] := hD
  refine lv_goto (tgt := 14) hx hb d_L_make_8 (by decide) ?_
  refine lv_iconst (v := 0) hx hb d_L_make_14 (by decide) ?_
  have hP9 := hP.sub (ws' := [(ho, .inl (cO, 1, .inr (.inl ((vp_updL (fo) (Int32.toNatClampNeg 0) (0))))))]) [0] rfl
  have hD9 := hD.sub (ws' := [(ho, .inl (cO, 1, .inr (.inl ((vp_updL (fo) (Int32.toNatClampNeg 0) (0))))))]) [0] (by decide) rfl
  have hK9 := hK.sub (tys' := [(cO, .long)]) [1] rfl
  exact W.iret (v := 0) hx hb hr (fun t ht hW => ⟨⟨0, (), rfl, rfl, (vp_updL (fo) (Int32.toNatClampNeg 0) (0)), x_up0, by rw [ht]; exact hP9, va_K.moved hW.alike hK9, hD9⟩, hS.F ht⟩) hS.2.2 d_L_make_15
set_option maxHeartbeats 4000000 in
set_option maxRecDepth 100000 in
theorem w_commit (l : Launch) (dC : Nat → ClassId) (dI : Nat → Nat → Nat) (sz : Nat) (h0 : Nat) (v_buffer : Value) (v_fetched : Value) (v_compared : Value) (v_maker : Value) (v_writer : Value) (i_madeDocuments : Int32) (i_fetchedSteps : Int32) (hp : Nat) (p_i_going : Int32) (p_i_writesLeft : Int32) (hd : Nat) (cD : ClassId) (a1 : Int32) (a2 : Int32) (ho : Nat) (cO : ClassId) (fo : Nat → Int64)  : Met l y_L_commit k_L_commit ({ frames := 2, cells := 0, slots := 0, locals := 47 } : Room) (va_Pc [.ref h0, .int a1, .int a2, .ref ho] (pc_E (dC, dI) [(h0, .inr (0, [.ref hd, v_buffer, v_fetched, v_compared, v_maker, v_writer, .ref hp, .int i_madeDocuments, .int i_fetchedSteps])), (hp, .inr (4, [.int 0, .int p_i_going, .int p_i_writesLeft])), (hd, .inl (cD, 8, .inr (.inr (.inr (.inr (fun _ => none)))))), (ho, .inl (cO, 1, .inr (.inl (fo))))] [(cD, .object R_D), (cO, .long)] sz)) (va_Qi (fun (r : Int32) (_ : Unit) => r = 0) (fun (_ : Unit) t => ∃ (g : Nat → Int64), (g 0 = (-1)) ∧ at_E (dC, dI) (va_A [(h0, .inr (0, [.ref hd, v_buffer, v_fetched, v_compared, v_maker, v_writer, .ref hp, .int i_madeDocuments, .int i_fetchedSteps])), (hp, .inr (4, [.int 0, .int p_i_going, .int p_i_writesLeft])), (hd, .inl (cD, 8, .inr (.inr (.inr (.inr (fun _ => none)))))), (ho, .inl (cO, 1, .inr (.inl (fo))))] sz) [(ho, .inl (cO, 1, .inr (.inl (g))))] [(cO, .long)] t) (va_A [(h0, .inr (0, [.ref hd, v_buffer, v_fetched, v_compared, v_maker, v_writer, .ref hp, .int i_madeDocuments, .int i_fetchedSteps])), (hp, .inr (4, [.int 0, .int p_i_going, .int p_i_writesLeft])), (hd, .inl (cD, 8, .inr (.inr (.inr (.inr (fun _ => none)))))), (ho, .inl (cO, 1, .inr (.inl (fo))))] sz)) 0 0 (va_A [(h0, .inr (0, [.ref hd, v_buffer, v_fetched, v_compared, v_maker, v_writer, .ref hp, .int i_madeDocuments, .int i_fetchedSteps])), (hp, .inr (4, [.int 0, .int p_i_going, .int p_i_writesLeft])), (hd, .inl (cD, 8, .inr (.inr (.inr (.inr (fun _ => none)))))), (ho, .inl (cO, 1, .inr (.inl (fo))))] sz) := by
  refine va_MetW (hh := [(0, 10, 13, 13)]) (cc := method_6_code) (maxL := 5) (ret := (some .int)) (by decide) rfl ?_
  intro p e s m args below meth c s₁ B hml hv
  obtain ⟨rfl, hsz, hP, hK, hD0, hN⟩ := hv
  have hx := B.exec
  have hb := B.bytes
  have hr := B.returns
  have hts := atoms_spec (ws := k_L_commit) B.pre
  have hw0 : ∀ w ∈ w0, w.before _ s = true := fun w h => hts w (List.mem_cons_of_mem _ h)
  have hown : s.vm.findClass R_L = some m.cls := findClass_of_methodNamed B.named
  have hlocks := B.notSynchronized
  subst hsz
  have hD := hD0.self (sz := s.heap.size)
  generalize hAe : va_A [(h0, .inr (0, [.ref hd, v_buffer, v_fetched, v_compared, v_maker, v_writer, .ref hp, .int i_madeDocuments, .int i_fetchedSteps])), (hp, .inr (4, [.int 0, .int p_i_going, .int p_i_writesLeft])), (hd, .inl (cD, 8, .inr (.inr (.inr (.inr (fun _ => none)))))), (ho, .inl (cO, 1, .inr (.inl (fo))))] s.heap.size = A at hD ⊢
  have hA : ∀ q : Nat, s.heap.size ≤ q → A q := fun q h => by rw [← hAe]; exact Or.inr h
  have hS : va_S A s.heap s.heap [] := va_S.rf
  have hP : va_P (dC, dI) vwCl [(h0, .inr (0, [.ref hd, v_buffer, v_fetched, v_compared, v_maker, v_writer, .ref hp, .int i_madeDocuments, .int i_fetchedSteps])), (hp, .inr (4, [.int 0, .int p_i_going, .int p_i_writesLeft])), (hd, .inl (cD, 8, .inr (.inr (.inr (.inr (fun _ => none)))))), (ho, .inl (cO, 1, .inr (.inl (fo))))] s.heap := hP
  have hl := lv_entry ([.ref h0, .int a1, .int a2, .ref ho]) (n := 5) (Nat.le_of_ble_eq_true rfl)
  rw [lg_entry_eq]
  generalize (lg_sl ([.ref h0, .int a1, .int a2, .ref ho]) ++ List.replicate (5 - (lg_sl ([.ref h0, .int a1, .int a2, .ref ho])).length) Slot.unset).toArray = ls at hl ⊢
  have hl : lv_has ls 5 [(0, .ref h0), (1, .int a1), (2, .int a2), (3, .ref ho)] := hl
  refine lv_aload_n hx hb d_L_commit_0 rfl (lv_at hl 3 rfl) ?_
  refine lv_iconst (v := 0) hx hb d_L_commit_1 (by decide) ?_
  refine lv_aload_n hx hb d_L_commit_2 rfl (lv_at hl 0 rfl) ?_
  refine lv_iload_n hx hb d_L_commit_3 rfl (lv_at hl 1 rfl) ?_
  refine lv_iload_n hx hb d_L_commit_4 rfl (lv_at hl 2 rfl) ?_
  have hPc := hP.sub (ws' := [(h0, .inr (0, [.ref hd, v_buffer, v_fetched, v_compared, v_maker, v_writer, .ref hp, .int i_madeDocuments, .int i_fetchedSteps])), (hp, .inr (4, [.int 0, .int p_i_going, .int p_i_writesLeft])), (hd, .inl (cD, 8, .inr (.inr (.inr (.inr (fun _ => none))))))]) [0, 1, 2] rfl
  have hKc := hK.sub (tys' := [(cD, .object R_D)]) [0] rfl
  refine ps_i (va_runV (As := [.int a1, .int a2]) (rest := [.int 0, .ref ho]) ⟨hx, hb, hml, hown, hw0⟩ (c_commit l dC dI h0 v_buffer v_fetched v_compared v_maker v_writer i_madeDocuments i_fetchedSteps hp p_i_going p_i_writesLeft hd cD a1 a2) (cwV 2 hw0 (gd_V 284 285 286 111 287 rfl rfl rfl rfl rfl) rfl rfl rfl (by decide +kernel) ⟨by decide +kernel, by decide +kernel⟩) (prV_R hPc hKc hN (va_recv hKc hPc (ci := 0) (q0 := 0) rfl rfl)) rfl rfl hl.1 rfl (lv_room (Nat.le_of_ble_eq_true rfl)) d_L_commit_5 ⟨by decide +kernel, by decide +kernel⟩) (fun r_1 hr_1 => ?_)
  obtain rfl : r_1 = (-1) := hr_1
  refine lv_i2l (v := (-1)) hx hb d_L_commit_8 (by decide +kernel) ?_
  refine va_last hx hb hK hP hD hS 3 1 rfl rfl (by unfold vp_in; decide +kernel) d_L_commit_9 (fun H locs hP hD hS => ?_)
  replace hP : va_P (dC, dI) vwCl [(h0, .inr (0, [.ref hd, v_buffer, v_fetched, v_compared, v_maker, v_writer, .ref hp, .int i_madeDocuments, .int i_fetchedSteps])), (hp, .inr (4, [.int 0, .int p_i_going, .int p_i_writesLeft])), (hd, .inl (cD, 8, .inr (.inr (.inr (.inr (fun _ => none)))))), (ho, .inl (cO, 1, .inr (.inl (vp_updL (fo) (Int32.toNatClampNeg 0) ((-1))))))] H := hP
  replace hD : va_D A [(h0, .inr (0, [.ref hd, v_buffer, v_fetched, v_compared, v_maker, v_writer, .ref hp, .int i_madeDocuments, .int i_fetchedSteps])), (hp, .inr (4, [.int 0, .int p_i_going, .int p_i_writesLeft])), (hd, .inl (cD, 8, .inr (.inr (.inr (.inr (fun _ => none)))))), (ho, .inl (cO, 1, .inr (.inl (vp_updL (fo) (Int32.toNatClampNeg 0) ((-1))))))] := hD
  refine lv_goto (tgt := 17) hx hb d_L_commit_10 (by decide) ?_
  refine lv_iconst (v := 0) hx hb d_L_commit_17 (by decide) ?_
  have hP9 := hP.sub (ws' := [(ho, .inl (cO, 1, .inr (.inl ((vp_updL (fo) (Int32.toNatClampNeg 0) ((-1)))))))]) [3] rfl
  have hD9 := hD.sub (ws' := [(ho, .inl (cO, 1, .inr (.inl ((vp_updL (fo) (Int32.toNatClampNeg 0) ((-1)))))))]) [3] (by decide) rfl
  have hK9 := hK.sub (tys' := [(cO, .long)]) [1] rfl
  exact W.iret (v := 0) hx hb hr (fun t ht hW => ⟨⟨0, (), rfl, rfl, (vp_updL (fo) (Int32.toNatClampNeg 0) ((-1))), x_up0, by rw [ht]; exact hP9, va_K.moved hW.alike hK9, hD9⟩, hS.F ht⟩) hS.2.2 d_L_commit_18
set_option maxHeartbeats 4000000 in
set_option maxRecDepth 100000 in
theorem w_fetch (l : Launch) (dC : Nat → ClassId) (dI : Nat → Nat → Nat) (sz : Nat) (h0 : Nat) (v_buffer : Value) (v_fetched : Value) (v_compared : Value) (v_maker : Value) (v_writer : Value) (i_madeDocuments : Int32) (i_fetchedSteps : Int32) (hp : Nat) (p_i_going : Int32) (p_i_writesLeft : Int32) (hd : Nat) (cD : ClassId) (a1 : Int32) (a2 : Int32) (ho : Nat) (cO : ClassId) (fo : Nat → Int64)  : Met l y_L_fetch k_L_fetch ({ frames := 2, cells := 0, slots := 0, locals := 45 } : Room) (va_Pc [.ref h0, .int a1, .int a2, .ref ho] (pc_E (dC, dI) [(h0, .inr (0, [.ref hd, v_buffer, v_fetched, v_compared, v_maker, v_writer, .ref hp, .int i_madeDocuments, .int i_fetchedSteps])), (hp, .inr (4, [.int 0, .int p_i_going, .int p_i_writesLeft])), (hd, .inl (cD, 8, .inr (.inr (.inr (.inr (fun _ => none)))))), (ho, .inl (cO, 1, .inr (.inl (fo))))] [(cD, .object R_D), (cO, .long)] sz)) (va_Qi (fun (r : Int32) (_ : Unit) => r = 0) (fun (_ : Unit) t => ∃ (g : Nat → Int64), (g 0 = (-1)) ∧ at_E (dC, dI) (va_A [(h0, .inr (0, [.ref hd, v_buffer, v_fetched, v_compared, v_maker, v_writer, .ref hp, .int i_madeDocuments, .int i_fetchedSteps])), (hp, .inr (4, [.int 0, .int p_i_going, .int p_i_writesLeft])), (hd, .inl (cD, 8, .inr (.inr (.inr (.inr (fun _ => none)))))), (ho, .inl (cO, 1, .inr (.inl (fo))))] sz) [(ho, .inl (cO, 1, .inr (.inl (g))))] [(cO, .long)] t) (va_A [(h0, .inr (0, [.ref hd, v_buffer, v_fetched, v_compared, v_maker, v_writer, .ref hp, .int i_madeDocuments, .int i_fetchedSteps])), (hp, .inr (4, [.int 0, .int p_i_going, .int p_i_writesLeft])), (hd, .inl (cD, 8, .inr (.inr (.inr (.inr (fun _ => none)))))), (ho, .inl (cO, 1, .inr (.inl (fo))))] sz)) 0 0 (va_A [(h0, .inr (0, [.ref hd, v_buffer, v_fetched, v_compared, v_maker, v_writer, .ref hp, .int i_madeDocuments, .int i_fetchedSteps])), (hp, .inr (4, [.int 0, .int p_i_going, .int p_i_writesLeft])), (hd, .inl (cD, 8, .inr (.inr (.inr (.inr (fun _ => none)))))), (ho, .inl (cO, 1, .inr (.inl (fo))))] sz) := by
  refine va_MetW (hh := [(0, 10, 13, 13)]) (cc := method_7_code) (maxL := 5) (ret := (some .int)) (by decide) rfl ?_
  intro p e s m args below meth c s₁ B hml hv
  obtain ⟨rfl, hsz, hP, hK, hD0, hN⟩ := hv
  have hx := B.exec
  have hb := B.bytes
  have hr := B.returns
  have hts := atoms_spec (ws := k_L_fetch) B.pre
  have hw0 : ∀ w ∈ w0, w.before _ s = true := fun w h => hts w (List.mem_cons_of_mem _ h)
  have hown : s.vm.findClass R_L = some m.cls := findClass_of_methodNamed B.named
  have hlocks := B.notSynchronized
  subst hsz
  have hD := hD0.self (sz := s.heap.size)
  generalize hAe : va_A [(h0, .inr (0, [.ref hd, v_buffer, v_fetched, v_compared, v_maker, v_writer, .ref hp, .int i_madeDocuments, .int i_fetchedSteps])), (hp, .inr (4, [.int 0, .int p_i_going, .int p_i_writesLeft])), (hd, .inl (cD, 8, .inr (.inr (.inr (.inr (fun _ => none)))))), (ho, .inl (cO, 1, .inr (.inl (fo))))] s.heap.size = A at hD ⊢
  have hA : ∀ q : Nat, s.heap.size ≤ q → A q := fun q h => by rw [← hAe]; exact Or.inr h
  have hS : va_S A s.heap s.heap [] := va_S.rf
  have hP : va_P (dC, dI) vwCl [(h0, .inr (0, [.ref hd, v_buffer, v_fetched, v_compared, v_maker, v_writer, .ref hp, .int i_madeDocuments, .int i_fetchedSteps])), (hp, .inr (4, [.int 0, .int p_i_going, .int p_i_writesLeft])), (hd, .inl (cD, 8, .inr (.inr (.inr (.inr (fun _ => none)))))), (ho, .inl (cO, 1, .inr (.inl (fo))))] s.heap := hP
  have hl := lv_entry ([.ref h0, .int a1, .int a2, .ref ho]) (n := 5) (Nat.le_of_ble_eq_true rfl)
  rw [lg_entry_eq]
  generalize (lg_sl ([.ref h0, .int a1, .int a2, .ref ho]) ++ List.replicate (5 - (lg_sl ([.ref h0, .int a1, .int a2, .ref ho])).length) Slot.unset).toArray = ls at hl ⊢
  have hl : lv_has ls 5 [(0, .ref h0), (1, .int a1), (2, .int a2), (3, .ref ho)] := hl
  refine lv_aload_n hx hb d_L_fetch_0 rfl (lv_at hl 3 rfl) ?_
  refine lv_iconst (v := 0) hx hb d_L_fetch_1 (by decide) ?_
  refine lv_aload_n hx hb d_L_fetch_2 rfl (lv_at hl 0 rfl) ?_
  refine lv_iload_n hx hb d_L_fetch_3 rfl (lv_at hl 1 rfl) ?_
  refine lv_iload_n hx hb d_L_fetch_4 rfl (lv_at hl 2 rfl) ?_
  have hPc := hP.sub (ws' := [(h0, .inr (0, [.ref hd, v_buffer, v_fetched, v_compared, v_maker, v_writer, .ref hp, .int i_madeDocuments, .int i_fetchedSteps])), (hp, .inr (4, [.int 0, .int p_i_going, .int p_i_writesLeft])), (hd, .inl (cD, 8, .inr (.inr (.inr (.inr (fun _ => none))))))]) [0, 1, 2] rfl
  have hKc := hK.sub (tys' := [(cD, .object R_D)]) [0] rfl
  refine ps_i (va_runV (As := [.int a1, .int a2]) (rest := [.int 0, .ref ho]) ⟨hx, hb, hml, hown, hw0⟩ (c_fetch l dC dI h0 v_buffer v_fetched v_compared v_maker v_writer i_madeDocuments i_fetchedSteps hp p_i_going p_i_writesLeft hd cD a1 a2) (cwV 2 hw0 (gd_V 288 289 290 111 291 rfl rfl rfl rfl rfl) rfl rfl rfl (by decide +kernel) ⟨by decide +kernel, by decide +kernel⟩) (prV_R hPc hKc hN (va_recv hKc hPc (ci := 0) (q0 := 0) rfl rfl)) rfl rfl hl.1 rfl (lv_room (Nat.le_of_ble_eq_true rfl)) d_L_fetch_5 ⟨by decide +kernel, by decide +kernel⟩) (fun r_1 hr_1 => ?_)
  obtain rfl : r_1 = (-1) := hr_1
  refine lv_i2l (v := (-1)) hx hb d_L_fetch_8 (by decide +kernel) ?_
  refine va_last hx hb hK hP hD hS 3 1 rfl rfl (by unfold vp_in; decide +kernel) d_L_fetch_9 (fun H locs hP hD hS => ?_)
  replace hP : va_P (dC, dI) vwCl [(h0, .inr (0, [.ref hd, v_buffer, v_fetched, v_compared, v_maker, v_writer, .ref hp, .int i_madeDocuments, .int i_fetchedSteps])), (hp, .inr (4, [.int 0, .int p_i_going, .int p_i_writesLeft])), (hd, .inl (cD, 8, .inr (.inr (.inr (.inr (fun _ => none)))))), (ho, .inl (cO, 1, .inr (.inl (vp_updL (fo) (Int32.toNatClampNeg 0) ((-1))))))] H := hP
  replace hD : va_D A [(h0, .inr (0, [.ref hd, v_buffer, v_fetched, v_compared, v_maker, v_writer, .ref hp, .int i_madeDocuments, .int i_fetchedSteps])), (hp, .inr (4, [.int 0, .int p_i_going, .int p_i_writesLeft])), (hd, .inl (cD, 8, .inr (.inr (.inr (.inr (fun _ => none)))))), (ho, .inl (cO, 1, .inr (.inl (vp_updL (fo) (Int32.toNatClampNeg 0) ((-1))))))] := hD
  refine lv_goto (tgt := 17) hx hb d_L_fetch_10 (by decide) ?_
  refine lv_iconst (v := 0) hx hb d_L_fetch_17 (by decide) ?_
  have hP9 := hP.sub (ws' := [(ho, .inl (cO, 1, .inr (.inl ((vp_updL (fo) (Int32.toNatClampNeg 0) ((-1)))))))]) [3] rfl
  have hD9 := hD.sub (ws' := [(ho, .inl (cO, 1, .inr (.inl ((vp_updL (fo) (Int32.toNatClampNeg 0) ((-1)))))))]) [3] (by decide) rfl
  have hK9 := hK.sub (tys' := [(cO, .long)]) [1] rfl
  exact W.iret (v := 0) hx hb hr (fun t ht hW => ⟨⟨0, (), rfl, rfl, (vp_updL (fo) (Int32.toNatClampNeg 0) ((-1))), x_up0, by rw [ht]; exact hP9, va_K.moved hW.alike hK9, hD9⟩, hS.F ht⟩) hS.2.2 d_L_fetch_18
set_option maxHeartbeats 4000000 in
set_option maxRecDepth 100000 in
theorem w_out (l : Launch) (dC : Nat → ClassId) (dI : Nat → Nat → Nat) (sz : Nat) (h0 : Nat) (v_documents : Value) (v_buffer : Value) (v_compared : Value) (v_maker : Value) (v_writer : Value) (i_madeDocuments : Int32) (i_fetchedSteps : Int32) (hp : Nat) (p_i_going : Int32) (p_i_writesLeft : Int32) (hf : Nat) (t_v_bytes : Value) (a1 : Int32) (ho : Nat) (cO : ClassId) (fo : Nat → Int64)  : Met l y_L_out k_L_out ({ frames := 2, cells := 0, slots := 0, locals := 42 } : Room) (va_Pc [.ref h0, .int a1, .ref ho] (pc_E (dC, dI) [(h0, .inr (0, [v_documents, v_buffer, .ref hf, v_compared, v_maker, v_writer, .ref hp, .int i_madeDocuments, .int i_fetchedSteps])), (hp, .inr (4, [.int 0, .int p_i_going, .int p_i_writesLeft])), (hf, .inr (1, [t_v_bytes, .int 0])), (ho, .inl (cO, 1, .inr (.inl (fo))))] [(cO, .long)] sz)) (va_Qi (fun (r : Int32) (_ : Unit) => r = 0) (fun (_ : Unit) t => ∃ (g : Nat → Int64), (g 0 = (-1)) ∧ at_E (dC, dI) (va_A [(h0, .inr (0, [v_documents, v_buffer, .ref hf, v_compared, v_maker, v_writer, .ref hp, .int i_madeDocuments, .int i_fetchedSteps])), (hp, .inr (4, [.int 0, .int p_i_going, .int p_i_writesLeft])), (hf, .inr (1, [t_v_bytes, .int 0])), (ho, .inl (cO, 1, .inr (.inl (fo))))] sz) [(ho, .inl (cO, 1, .inr (.inl (g))))] [(cO, .long)] t) (va_A [(h0, .inr (0, [v_documents, v_buffer, .ref hf, v_compared, v_maker, v_writer, .ref hp, .int i_madeDocuments, .int i_fetchedSteps])), (hp, .inr (4, [.int 0, .int p_i_going, .int p_i_writesLeft])), (hf, .inr (1, [t_v_bytes, .int 0])), (ho, .inl (cO, 1, .inr (.inl (fo))))] sz)) 0 0 (va_A [(h0, .inr (0, [v_documents, v_buffer, .ref hf, v_compared, v_maker, v_writer, .ref hp, .int i_madeDocuments, .int i_fetchedSteps])), (hp, .inr (4, [.int 0, .int p_i_going, .int p_i_writesLeft])), (hf, .inr (1, [t_v_bytes, .int 0])), (ho, .inl (cO, 1, .inr (.inl (fo))))] sz) := by
  refine va_MetW (hh := [(0, 9, 12, 13)]) (cc := method_8_code) (maxL := 4) (ret := (some .int)) (by decide) rfl ?_
  intro p e s m args below meth c s₁ B hml hv
  obtain ⟨rfl, hsz, hP, hK, hD0, hN⟩ := hv
  have hx := B.exec
  have hb := B.bytes
  have hr := B.returns
  have hts := atoms_spec (ws := k_L_out) B.pre
  have hw0 : ∀ w ∈ w0, w.before _ s = true := fun w h => hts w (List.mem_cons_of_mem _ h)
  have hown : s.vm.findClass R_L = some m.cls := findClass_of_methodNamed B.named
  have hlocks := B.notSynchronized
  subst hsz
  have hD := hD0.self (sz := s.heap.size)
  generalize hAe : va_A [(h0, .inr (0, [v_documents, v_buffer, .ref hf, v_compared, v_maker, v_writer, .ref hp, .int i_madeDocuments, .int i_fetchedSteps])), (hp, .inr (4, [.int 0, .int p_i_going, .int p_i_writesLeft])), (hf, .inr (1, [t_v_bytes, .int 0])), (ho, .inl (cO, 1, .inr (.inl (fo))))] s.heap.size = A at hD ⊢
  have hA : ∀ q : Nat, s.heap.size ≤ q → A q := fun q h => by rw [← hAe]; exact Or.inr h
  have hS : va_S A s.heap s.heap [] := va_S.rf
  have hP : va_P (dC, dI) vwCl [(h0, .inr (0, [v_documents, v_buffer, .ref hf, v_compared, v_maker, v_writer, .ref hp, .int i_madeDocuments, .int i_fetchedSteps])), (hp, .inr (4, [.int 0, .int p_i_going, .int p_i_writesLeft])), (hf, .inr (1, [t_v_bytes, .int 0])), (ho, .inl (cO, 1, .inr (.inl (fo))))] s.heap := hP
  have hl := lv_entry ([.ref h0, .int a1, .ref ho]) (n := 4) (Nat.le_of_ble_eq_true rfl)
  rw [lg_entry_eq]
  generalize (lg_sl ([.ref h0, .int a1, .ref ho]) ++ List.replicate (4 - (lg_sl ([.ref h0, .int a1, .ref ho])).length) Slot.unset).toArray = ls at hl ⊢
  have hl : lv_has ls 4 [(0, .ref h0), (1, .int a1), (2, .ref ho)] := hl
  refine lv_aload_n hx hb d_L_out_0 rfl (lv_at hl 2 rfl) ?_
  refine lv_iconst (v := 0) hx hb d_L_out_1 (by decide) ?_
  refine lv_aload_n hx hb d_L_out_2 rfl (lv_at hl 0 rfl) ?_
  refine lv_iload_n hx hb d_L_out_3 rfl (lv_at hl 1 rfl) ?_
  have hPc := hP.sub (ws' := [(h0, .inr (0, [v_documents, v_buffer, .ref hf, v_compared, v_maker, v_writer, .ref hp, .int i_madeDocuments, .int i_fetchedSteps])), (hp, .inr (4, [.int 0, .int p_i_going, .int p_i_writesLeft])), (hf, .inr (1, [t_v_bytes, .int 0]))]) [0, 1, 2] rfl
  have hKc := hK.sub (tys' := []) [] rfl
  refine ps_i (va_runV (As := [.int a1]) (rest := [.int 0, .ref ho]) ⟨hx, hb, hml, hown, hw0⟩ (c_out l dC dI h0 v_documents v_buffer v_compared v_maker v_writer i_madeDocuments i_fetchedSteps hp p_i_going p_i_writesLeft hf t_v_bytes a1) (cwV 1 hw0 (gd_V 292 293 294 111 295 rfl rfl rfl rfl rfl) rfl rfl rfl (by decide +kernel) ⟨by decide +kernel, by decide +kernel⟩) (prV_R hPc hKc hN (va_recv hKc hPc (ci := 0) (q0 := 0) rfl rfl)) rfl rfl hl.1 rfl (lv_room (Nat.le_of_ble_eq_true rfl)) d_L_out_4 ⟨by decide +kernel, by decide +kernel⟩) (fun r_1 hr_1 => ?_)
  obtain rfl : r_1 = (-1) := hr_1
  refine lv_i2l (v := (-1)) hx hb d_L_out_7 (by decide +kernel) ?_
  refine va_last hx hb hK hP hD hS 3 0 rfl rfl (by unfold vp_in; decide +kernel) d_L_out_8 (fun H locs hP hD hS => ?_)
  replace hP : va_P (dC, dI) vwCl [(h0, .inr (0, [v_documents, v_buffer, .ref hf, v_compared, v_maker, v_writer, .ref hp, .int i_madeDocuments, .int i_fetchedSteps])), (hp, .inr (4, [.int 0, .int p_i_going, .int p_i_writesLeft])), (hf, .inr (1, [t_v_bytes, .int 0])), (ho, .inl (cO, 1, .inr (.inl (vp_updL (fo) (Int32.toNatClampNeg 0) ((-1))))))] H := hP
  replace hD : va_D A [(h0, .inr (0, [v_documents, v_buffer, .ref hf, v_compared, v_maker, v_writer, .ref hp, .int i_madeDocuments, .int i_fetchedSteps])), (hp, .inr (4, [.int 0, .int p_i_going, .int p_i_writesLeft])), (hf, .inr (1, [t_v_bytes, .int 0])), (ho, .inl (cO, 1, .inr (.inl (vp_updL (fo) (Int32.toNatClampNeg 0) ((-1))))))] := hD
  refine lv_goto (tgt := 15) hx hb d_L_out_9 (by decide) ?_
  refine lv_iconst (v := 0) hx hb d_L_out_15 (by decide) ?_
  have hP9 := hP.sub (ws' := [(ho, .inl (cO, 1, .inr (.inl ((vp_updL (fo) (Int32.toNatClampNeg 0) ((-1)))))))]) [3] rfl
  have hD9 := hD.sub (ws' := [(ho, .inl (cO, 1, .inr (.inl ((vp_updL (fo) (Int32.toNatClampNeg 0) ((-1)))))))]) [3] (by decide) rfl
  have hK9 := hK.sub (tys' := [(cO, .long)]) [0] rfl
  exact W.iret (v := 0) hx hb hr (fun t ht hW => ⟨⟨0, (), rfl, rfl, (vp_updL (fo) (Int32.toNatClampNeg 0) ((-1))), x_up0, by rw [ht]; exact hP9, va_K.moved hW.alike hK9, hD9⟩, hS.F ht⟩) hS.2.2 d_L_out_16
set_option maxHeartbeats 4000000 in
set_option maxRecDepth 100000 in
theorem w_steps (l : Launch) (dC : Nat → ClassId) (dI : Nat → Nat → Nat) (sz : Nat) (h0 : Nat) (v_documents : Value) (v_buffer : Value) (v_fetched : Value) (v_compared : Value) (v_maker : Value) (v_writer : Value) (i_madeDocuments : Int32) (hp : Nat) (p_i_going : Int32) (p_i_writesLeft : Int32) (ho : Nat) (cO : ClassId) (fo : Nat → Int64)  : Met l y_L_steps k_L_steps ({ frames := 2, cells := 0, slots := 0, locals := 40 } : Room) (va_Pc [.ref h0, .ref ho] (pc_E (dC, dI) [(h0, .inr (0, [v_documents, v_buffer, v_fetched, v_compared, v_maker, v_writer, .ref hp, .int i_madeDocuments, .int (-1)])), (hp, .inr (4, [.int 0, .int p_i_going, .int p_i_writesLeft])), (ho, .inl (cO, 1, .inr (.inl (fo))))] [(cO, .long)] sz)) (va_Qi (fun (r : Int32) (_ : Unit) => r = 0) (fun (_ : Unit) t => ∃ (g : Nat → Int64), (g 0 = (-1)) ∧ at_E (dC, dI) (va_A [(h0, .inr (0, [v_documents, v_buffer, v_fetched, v_compared, v_maker, v_writer, .ref hp, .int i_madeDocuments, .int (-1)])), (hp, .inr (4, [.int 0, .int p_i_going, .int p_i_writesLeft])), (ho, .inl (cO, 1, .inr (.inl (fo))))] sz) [(ho, .inl (cO, 1, .inr (.inl (g))))] [(cO, .long)] t) (va_A [(h0, .inr (0, [v_documents, v_buffer, v_fetched, v_compared, v_maker, v_writer, .ref hp, .int i_madeDocuments, .int (-1)])), (hp, .inr (4, [.int 0, .int p_i_going, .int p_i_writesLeft])), (ho, .inl (cO, 1, .inr (.inl (fo))))] sz)) 0 0 (va_A [(h0, .inr (0, [v_documents, v_buffer, v_fetched, v_compared, v_maker, v_writer, .ref hp, .int i_madeDocuments, .int (-1)])), (hp, .inr (4, [.int 0, .int p_i_going, .int p_i_writesLeft])), (ho, .inl (cO, 1, .inr (.inl (fo))))] sz) := by
  refine va_MetW (hh := [(0, 8, 11, 13)]) (cc := method_9_code) (maxL := 3) (ret := (some .int)) (by decide) rfl ?_
  intro p e s m args below meth c s₁ B hml hv
  obtain ⟨rfl, hsz, hP, hK, hD0, hN⟩ := hv
  have hx := B.exec
  have hb := B.bytes
  have hr := B.returns
  have hts := atoms_spec (ws := k_L_steps) B.pre
  have hw0 : ∀ w ∈ w0, w.before _ s = true := fun w h => hts w (List.mem_cons_of_mem _ h)
  have hown : s.vm.findClass R_L = some m.cls := findClass_of_methodNamed B.named
  have hlocks := B.notSynchronized
  subst hsz
  have hD := hD0.self (sz := s.heap.size)
  generalize hAe : va_A [(h0, .inr (0, [v_documents, v_buffer, v_fetched, v_compared, v_maker, v_writer, .ref hp, .int i_madeDocuments, .int (-1)])), (hp, .inr (4, [.int 0, .int p_i_going, .int p_i_writesLeft])), (ho, .inl (cO, 1, .inr (.inl (fo))))] s.heap.size = A at hD ⊢
  have hA : ∀ q : Nat, s.heap.size ≤ q → A q := fun q h => by rw [← hAe]; exact Or.inr h
  have hS : va_S A s.heap s.heap [] := va_S.rf
  have hP : va_P (dC, dI) vwCl [(h0, .inr (0, [v_documents, v_buffer, v_fetched, v_compared, v_maker, v_writer, .ref hp, .int i_madeDocuments, .int (-1)])), (hp, .inr (4, [.int 0, .int p_i_going, .int p_i_writesLeft])), (ho, .inl (cO, 1, .inr (.inl (fo))))] s.heap := hP
  have hl := lv_entry ([.ref h0, .ref ho]) (n := 3) (Nat.le_of_ble_eq_true rfl)
  rw [lg_entry_eq]
  generalize (lg_sl ([.ref h0, .ref ho]) ++ List.replicate (3 - (lg_sl ([.ref h0, .ref ho])).length) Slot.unset).toArray = ls at hl ⊢
  have hl : lv_has ls 3 [(0, .ref h0), (1, .ref ho)] := hl
  refine lv_aload_n hx hb d_L_steps_0 rfl (lv_at hl 1 rfl) ?_
  refine lv_iconst (v := 0) hx hb d_L_steps_1 (by decide) ?_
  refine lv_aload_n hx hb d_L_steps_2 rfl (lv_at hl 0 rfl) ?_
  have hPc := hP.sub (ws' := [(h0, .inr (0, [v_documents, v_buffer, v_fetched, v_compared, v_maker, v_writer, .ref hp, .int i_madeDocuments, .int (-1)])), (hp, .inr (4, [.int 0, .int p_i_going, .int p_i_writesLeft]))]) [0, 1] rfl
  have hKc := hK.sub (tys' := []) [] rfl
  refine ps_i (va_runV (As := []) (rest := [.int 0, .ref ho]) ⟨hx, hb, hml, hown, hw0⟩ (c_steps l dC dI h0 v_documents v_buffer v_fetched v_compared v_maker v_writer i_madeDocuments hp p_i_going p_i_writesLeft) (cwV 0 hw0 (gd_V 296 297 298 111 299 rfl rfl rfl rfl rfl) rfl rfl rfl (by decide +kernel) ⟨by decide +kernel, by decide +kernel⟩) (prV_R hPc hKc hN (va_recv hKc hPc (ci := 0) (q0 := 0) rfl rfl)) rfl rfl hl.1 rfl (lv_room (Nat.le_of_ble_eq_true rfl)) d_L_steps_3 ⟨by decide +kernel, by decide +kernel⟩) (fun r_1 hr_1 => ?_)
  obtain rfl : r_1 = (-1) := hr_1
  refine lv_i2l (v := (-1)) hx hb d_L_steps_6 (by decide +kernel) ?_
  refine va_last hx hb hK hP hD hS 2 0 rfl rfl (by unfold vp_in; decide +kernel) d_L_steps_7 (fun H locs hP hD hS => ?_)
  replace hP : va_P (dC, dI) vwCl [(h0, .inr (0, [v_documents, v_buffer, v_fetched, v_compared, v_maker, v_writer, .ref hp, .int i_madeDocuments, .int (-1)])), (hp, .inr (4, [.int 0, .int p_i_going, .int p_i_writesLeft])), (ho, .inl (cO, 1, .inr (.inl (vp_updL (fo) (Int32.toNatClampNeg 0) ((-1))))))] H := hP
  replace hD : va_D A [(h0, .inr (0, [v_documents, v_buffer, v_fetched, v_compared, v_maker, v_writer, .ref hp, .int i_madeDocuments, .int (-1)])), (hp, .inr (4, [.int 0, .int p_i_going, .int p_i_writesLeft])), (ho, .inl (cO, 1, .inr (.inl (vp_updL (fo) (Int32.toNatClampNeg 0) ((-1))))))] := hD
  refine lv_goto (tgt := 14) hx hb d_L_steps_8 (by decide) ?_
  refine lv_iconst (v := 0) hx hb d_L_steps_14 (by decide) ?_
  have hP9 := hP.sub (ws' := [(ho, .inl (cO, 1, .inr (.inl ((vp_updL (fo) (Int32.toNatClampNeg 0) ((-1)))))))]) [2] rfl
  have hD9 := hD.sub (ws' := [(ho, .inl (cO, 1, .inr (.inl ((vp_updL (fo) (Int32.toNatClampNeg 0) ((-1)))))))]) [2] (by decide) rfl
  have hK9 := hK.sub (tys' := [(cO, .long)]) [0] rfl
  exact W.iret (v := 0) hx hb hr (fun t ht hW => ⟨⟨0, (), rfl, rfl, (vp_updL (fo) (Int32.toNatClampNeg 0) ((-1))), x_up0, by rw [ht]; exact hP9, va_K.moved hW.alike hK9, hD9⟩, hS.F ht⟩) hS.2.2 d_L_steps_15
set_option maxHeartbeats 4000000 in
set_option maxRecDepth 100000 in
theorem w_trim (l : Launch) (dC : Nat → ClassId) (dI : Nat → Nat → Nat) (sz : Nat) (h0 : Nat) (v_buffer : Value) (v_fetched : Value) (v_compared : Value) (v_maker : Value) (v_writer : Value) (i_madeDocuments : Int32) (i_fetchedSteps : Int32) (hp : Nat) (p_i_going : Int32) (p_i_writesLeft : Int32) (hd : Nat) (cD : ClassId) (a1 : Int32) (a2 : Int32) (ho : Nat) (cO : ClassId) (fo : Nat → Int64)  : Met l y_L_trim k_L_trim ({ frames := 2, cells := 0, slots := 0, locals := 44 } : Room) (va_Pc [.ref h0, .int a1, .int a2, .ref ho] (pc_E (dC, dI) [(h0, .inr (0, [.ref hd, v_buffer, v_fetched, v_compared, v_maker, v_writer, .ref hp, .int i_madeDocuments, .int i_fetchedSteps])), (hp, .inr (4, [.int 0, .int p_i_going, .int p_i_writesLeft])), (hd, .inl (cD, 8, .inr (.inr (.inr (.inr (fun _ => none)))))), (ho, .inl (cO, 1, .inr (.inl (fo))))] [(cD, .object R_D), (cO, .long)] sz)) (va_Qi (fun (r : Int32) (_ : Unit) => r = 0) (fun (_ : Unit) t => ∃ (g : Nat → Int64), (g 0 = 0) ∧ at_E (dC, dI) (va_A [(h0, .inr (0, [.ref hd, v_buffer, v_fetched, v_compared, v_maker, v_writer, .ref hp, .int i_madeDocuments, .int i_fetchedSteps])), (hp, .inr (4, [.int 0, .int p_i_going, .int p_i_writesLeft])), (hd, .inl (cD, 8, .inr (.inr (.inr (.inr (fun _ => none)))))), (ho, .inl (cO, 1, .inr (.inl (fo))))] sz) [(ho, .inl (cO, 1, .inr (.inl (g))))] [(cO, .long)] t) (va_A [(h0, .inr (0, [.ref hd, v_buffer, v_fetched, v_compared, v_maker, v_writer, .ref hp, .int i_madeDocuments, .int i_fetchedSteps])), (hp, .inr (4, [.int 0, .int p_i_going, .int p_i_writesLeft])), (hd, .inl (cD, 8, .inr (.inr (.inr (.inr (fun _ => none)))))), (ho, .inl (cO, 1, .inr (.inl (fo))))] sz)) 0 0 (va_A [(h0, .inr (0, [.ref hd, v_buffer, v_fetched, v_compared, v_maker, v_writer, .ref hp, .int i_madeDocuments, .int i_fetchedSteps])), (hp, .inr (4, [.int 0, .int p_i_going, .int p_i_writesLeft])), (hd, .inl (cD, 8, .inr (.inr (.inr (.inr (fun _ => none)))))), (ho, .inl (cO, 1, .inr (.inl (fo))))] sz) := by
  refine va_MetW (hh := [(0, 17, 20, 13)]) (cc := method_10_code) (maxL := 5) (ret := (some .int)) (by decide) rfl ?_
  intro p e s m args below meth c s₁ B hml hv
  obtain ⟨rfl, hsz, hP, hK, hD0, hN⟩ := hv
  have hx := B.exec
  have hb := B.bytes
  have hr := B.returns
  have hts := atoms_spec (ws := k_L_trim) B.pre
  have hw0 : ∀ w ∈ w0, w.before _ s = true := fun w h => hts w (List.mem_cons_of_mem _ h)
  have hown : s.vm.findClass R_L = some m.cls := findClass_of_methodNamed B.named
  have hlocks := B.notSynchronized
  subst hsz
  have hD := hD0.self (sz := s.heap.size)
  generalize hAe : va_A [(h0, .inr (0, [.ref hd, v_buffer, v_fetched, v_compared, v_maker, v_writer, .ref hp, .int i_madeDocuments, .int i_fetchedSteps])), (hp, .inr (4, [.int 0, .int p_i_going, .int p_i_writesLeft])), (hd, .inl (cD, 8, .inr (.inr (.inr (.inr (fun _ => none)))))), (ho, .inl (cO, 1, .inr (.inl (fo))))] s.heap.size = A at hD ⊢
  have hA : ∀ q : Nat, s.heap.size ≤ q → A q := fun q h => by rw [← hAe]; exact Or.inr h
  have hS : va_S A s.heap s.heap [] := va_S.rf
  have hP : va_P (dC, dI) vwCl [(h0, .inr (0, [.ref hd, v_buffer, v_fetched, v_compared, v_maker, v_writer, .ref hp, .int i_madeDocuments, .int i_fetchedSteps])), (hp, .inr (4, [.int 0, .int p_i_going, .int p_i_writesLeft])), (hd, .inl (cD, 8, .inr (.inr (.inr (.inr (fun _ => none)))))), (ho, .inl (cO, 1, .inr (.inl (fo))))] s.heap := hP
  have hl := lv_entry ([.ref h0, .int a1, .int a2, .ref ho]) (n := 5) (Nat.le_of_ble_eq_true rfl)
  rw [lg_entry_eq]
  generalize (lg_sl ([.ref h0, .int a1, .int a2, .ref ho]) ++ List.replicate (5 - (lg_sl ([.ref h0, .int a1, .int a2, .ref ho])).length) Slot.unset).toArray = ls at hl ⊢
  have hl : lv_has ls 5 [(0, .ref h0), (1, .int a1), (2, .int a2), (3, .ref ho)] := hl
  refine lv_aload_n hx hb d_L_trim_0 rfl (lv_at hl 3 rfl) ?_
  refine lv_iconst (v := 0) hx hb d_L_trim_1 (by decide) ?_
  refine lv_aload_n hx hb d_L_trim_2 rfl (lv_at hl 0 rfl) ?_
  refine lv_iload_n hx hb d_L_trim_3 rfl (lv_at hl 1 rfl) ?_
  refine lv_iload_n hx hb d_L_trim_4 rfl (lv_at hl 2 rfl) ?_
  have hPc := hP.sub (ws' := [(h0, .inr (0, [.ref hd, v_buffer, v_fetched, v_compared, v_maker, v_writer, .ref hp, .int i_madeDocuments, .int i_fetchedSteps])), (hp, .inr (4, [.int 0, .int p_i_going, .int p_i_writesLeft])), (hd, .inl (cD, 8, .inr (.inr (.inr (.inr (fun _ => none))))))]) [0, 1, 2] rfl
  have hKc := hK.sub (tys' := [(cD, .object R_D)]) [0] rfl
  refine ps_i (va_runV (As := [.int a1, .int a2]) (rest := [.int 0, .ref ho]) ⟨hx, hb, hml, hown, hw0⟩ (c_trim l dC dI h0 v_buffer v_fetched v_compared v_maker v_writer i_madeDocuments i_fetchedSteps hp p_i_going p_i_writesLeft hd cD a1 a2) (cwV 2 hw0 (gd_V 300 301 302 111 303 rfl rfl rfl rfl rfl) rfl rfl rfl (by decide +kernel) ⟨by decide +kernel, by decide +kernel⟩) (prV_R hPc hKc hN (va_recv hKc hPc (ci := 0) (q0 := 0) rfl rfl)) rfl rfl hl.1 rfl (lv_room (Nat.le_of_ble_eq_true rfl)) d_L_trim_5 ⟨by decide +kernel, by decide +kernel⟩) (fun r_1 hr_1 => ?_)
  obtain rfl : r_1 = 0 := hr_1
  refine lv_if_eq (tgt := 15) hx hb d_L_trim_8 (by decide) (fun _ => ?_) (fun h9 => absurd h9 (by decide +kernel))
  refine lv_lconst (v := 0) hx hb d_L_trim_15 (by decide) ?_
  refine va_last hx hb hK hP hD hS 3 1 rfl rfl (by unfold vp_in; decide +kernel) d_L_trim_16 (fun H locs hP hD hS => ?_)
  replace hP : va_P (dC, dI) vwCl [(h0, .inr (0, [.ref hd, v_buffer, v_fetched, v_compared, v_maker, v_writer, .ref hp, .int i_madeDocuments, .int i_fetchedSteps])), (hp, .inr (4, [.int 0, .int p_i_going, .int p_i_writesLeft])), (hd, .inl (cD, 8, .inr (.inr (.inr (.inr (fun _ => none)))))), (ho, .inl (cO, 1, .inr (.inl (vp_updL (fo) (Int32.toNatClampNeg 0) (0)))))] H := hP
  replace hD : va_D A [(h0, .inr (0, [.ref hd, v_buffer, v_fetched, v_compared, v_maker, v_writer, .ref hp, .int i_madeDocuments, .int i_fetchedSteps])), (hp, .inr (4, [.int 0, .int p_i_going, .int p_i_writesLeft])), (hd, .inl (cD, 8, .inr (.inr (.inr (.inr (fun _ => none)))))), (ho, .inl (cO, 1, .inr (.inl (vp_updL (fo) (Int32.toNatClampNeg 0) (0)))))] := hD
  refine lv_goto (tgt := 24) hx hb d_L_trim_17 (by decide) ?_
  refine lv_iconst (v := 0) hx hb d_L_trim_24 (by decide) ?_
  have hP9 := hP.sub (ws' := [(ho, .inl (cO, 1, .inr (.inl ((vp_updL (fo) (Int32.toNatClampNeg 0) (0))))))]) [3] rfl
  have hD9 := hD.sub (ws' := [(ho, .inl (cO, 1, .inr (.inl ((vp_updL (fo) (Int32.toNatClampNeg 0) (0))))))]) [3] (by decide) rfl
  have hK9 := hK.sub (tys' := [(cO, .long)]) [1] rfl
  exact W.iret (v := 0) hx hb hr (fun t ht hW => ⟨⟨0, (), rfl, rfl, (vp_updL (fo) (Int32.toNatClampNeg 0) (0)), x_up0, by rw [ht]; exact hP9, va_K.moved hW.alike hK9, hD9⟩, hS.F ht⟩) hS.2.2 d_L_trim_25
set_option maxHeartbeats 4000000 in
set_option maxRecDepth 100000 in
theorem w_dropDocument (l : Launch) (dC : Nat → ClassId) (dI : Nat → Nat → Nat) (sz : Nat) (h0 : Nat) (v_buffer : Value) (v_fetched : Value) (v_compared : Value) (v_maker : Value) (v_writer : Value) (i_madeDocuments : Int32) (i_fetchedSteps : Int32) (hp : Nat) (p_i_going : Int32) (p_i_writesLeft : Int32) (hd : Nat) (cD : ClassId) (a1 : Int32) (ho : Nat) (cO : ClassId) (fo : Nat → Int64)  : Met l y_L_dropDocument k_L_dropDocument ({ frames := 2, cells := 0, slots := 0, locals := 42 } : Room) (va_Pc [.ref h0, .int a1, .ref ho] (pc_E (dC, dI) [(h0, .inr (0, [.ref hd, v_buffer, v_fetched, v_compared, v_maker, v_writer, .ref hp, .int i_madeDocuments, .int i_fetchedSteps])), (hp, .inr (4, [.int 0, .int p_i_going, .int p_i_writesLeft])), (hd, .inl (cD, 8, .inr (.inr (.inr (.inr (fun _ => none)))))), (ho, .inl (cO, 1, .inr (.inl (fo))))] [(cD, .object R_D), (cO, .long)] sz)) (va_Qi (fun (r : Int32) (_ : Unit) => r = 0) (fun (_ : Unit) t => ∃ (g : Nat → Int64), (g 0 = 0) ∧ at_E (dC, dI) (va_A [(h0, .inr (0, [.ref hd, v_buffer, v_fetched, v_compared, v_maker, v_writer, .ref hp, .int i_madeDocuments, .int i_fetchedSteps])), (hp, .inr (4, [.int 0, .int p_i_going, .int p_i_writesLeft])), (hd, .inl (cD, 8, .inr (.inr (.inr (.inr (fun _ => none)))))), (ho, .inl (cO, 1, .inr (.inl (fo))))] sz) [(ho, .inl (cO, 1, .inr (.inl (g))))] [(cO, .long)] t) (va_A [(h0, .inr (0, [.ref hd, v_buffer, v_fetched, v_compared, v_maker, v_writer, .ref hp, .int i_madeDocuments, .int i_fetchedSteps])), (hp, .inr (4, [.int 0, .int p_i_going, .int p_i_writesLeft])), (hd, .inl (cD, 8, .inr (.inr (.inr (.inr (fun _ => none)))))), (ho, .inl (cO, 1, .inr (.inl (fo))))] sz)) 0 0 (va_A [(h0, .inr (0, [.ref hd, v_buffer, v_fetched, v_compared, v_maker, v_writer, .ref hp, .int i_madeDocuments, .int i_fetchedSteps])), (hp, .inr (4, [.int 0, .int p_i_going, .int p_i_writesLeft])), (hd, .inl (cD, 8, .inr (.inr (.inr (.inr (fun _ => none)))))), (ho, .inl (cO, 1, .inr (.inl (fo))))] sz) := by
  refine va_MetW (hh := [(0, 16, 19, 13)]) (cc := method_11_code) (maxL := 4) (ret := (some .int)) (by decide) rfl ?_
  intro p e s m args below meth c s₁ B hml hv
  obtain ⟨rfl, hsz, hP, hK, hD0, hN⟩ := hv
  have hx := B.exec
  have hb := B.bytes
  have hr := B.returns
  have hts := atoms_spec (ws := k_L_dropDocument) B.pre
  have hw0 : ∀ w ∈ w0, w.before _ s = true := fun w h => hts w (List.mem_cons_of_mem _ h)
  have hown : s.vm.findClass R_L = some m.cls := findClass_of_methodNamed B.named
  have hlocks := B.notSynchronized
  subst hsz
  have hD := hD0.self (sz := s.heap.size)
  generalize hAe : va_A [(h0, .inr (0, [.ref hd, v_buffer, v_fetched, v_compared, v_maker, v_writer, .ref hp, .int i_madeDocuments, .int i_fetchedSteps])), (hp, .inr (4, [.int 0, .int p_i_going, .int p_i_writesLeft])), (hd, .inl (cD, 8, .inr (.inr (.inr (.inr (fun _ => none)))))), (ho, .inl (cO, 1, .inr (.inl (fo))))] s.heap.size = A at hD ⊢
  have hA : ∀ q : Nat, s.heap.size ≤ q → A q := fun q h => by rw [← hAe]; exact Or.inr h
  have hS : va_S A s.heap s.heap [] := va_S.rf
  have hP : va_P (dC, dI) vwCl [(h0, .inr (0, [.ref hd, v_buffer, v_fetched, v_compared, v_maker, v_writer, .ref hp, .int i_madeDocuments, .int i_fetchedSteps])), (hp, .inr (4, [.int 0, .int p_i_going, .int p_i_writesLeft])), (hd, .inl (cD, 8, .inr (.inr (.inr (.inr (fun _ => none)))))), (ho, .inl (cO, 1, .inr (.inl (fo))))] s.heap := hP
  have hl := lv_entry ([.ref h0, .int a1, .ref ho]) (n := 4) (Nat.le_of_ble_eq_true rfl)
  rw [lg_entry_eq]
  generalize (lg_sl ([.ref h0, .int a1, .ref ho]) ++ List.replicate (4 - (lg_sl ([.ref h0, .int a1, .ref ho])).length) Slot.unset).toArray = ls at hl ⊢
  have hl : lv_has ls 4 [(0, .ref h0), (1, .int a1), (2, .ref ho)] := hl
  refine lv_aload_n hx hb d_L_dropDocument_0 rfl (lv_at hl 2 rfl) ?_
  refine lv_iconst (v := 0) hx hb d_L_dropDocument_1 (by decide) ?_
  refine lv_aload_n hx hb d_L_dropDocument_2 rfl (lv_at hl 0 rfl) ?_
  refine lv_iload_n hx hb d_L_dropDocument_3 rfl (lv_at hl 1 rfl) ?_
  have hPc := hP.sub (ws' := [(h0, .inr (0, [.ref hd, v_buffer, v_fetched, v_compared, v_maker, v_writer, .ref hp, .int i_madeDocuments, .int i_fetchedSteps])), (hp, .inr (4, [.int 0, .int p_i_going, .int p_i_writesLeft])), (hd, .inl (cD, 8, .inr (.inr (.inr (.inr (fun _ => none))))))]) [0, 1, 2] rfl
  have hKc := hK.sub (tys' := [(cD, .object R_D)]) [0] rfl
  refine ps_i (va_runV (As := [.int a1]) (rest := [.int 0, .ref ho]) ⟨hx, hb, hml, hown, hw0⟩ (c_dropDocument l dC dI h0 v_buffer v_fetched v_compared v_maker v_writer i_madeDocuments i_fetchedSteps hp p_i_going p_i_writesLeft hd cD a1) (cwV 1 hw0 (gd_V 304 305 306 111 307 rfl rfl rfl rfl rfl) rfl rfl rfl (by decide +kernel) ⟨by decide +kernel, by decide +kernel⟩) (prV_R hPc hKc hN (va_recv hKc hPc (ci := 0) (q0 := 0) rfl rfl)) rfl rfl hl.1 rfl (lv_room (Nat.le_of_ble_eq_true rfl)) d_L_dropDocument_4 ⟨by decide +kernel, by decide +kernel⟩) (fun r_1 hr_1 => ?_)
  obtain rfl : r_1 = 0 := hr_1
  refine lv_if_eq (tgt := 14) hx hb d_L_dropDocument_7 (by decide) (fun _ => ?_) (fun h9 => absurd h9 (by decide +kernel))
  refine lv_lconst (v := 0) hx hb d_L_dropDocument_14 (by decide) ?_
  refine va_last hx hb hK hP hD hS 3 1 rfl rfl (by unfold vp_in; decide +kernel) d_L_dropDocument_15 (fun H locs hP hD hS => ?_)
  replace hP : va_P (dC, dI) vwCl [(h0, .inr (0, [.ref hd, v_buffer, v_fetched, v_compared, v_maker, v_writer, .ref hp, .int i_madeDocuments, .int i_fetchedSteps])), (hp, .inr (4, [.int 0, .int p_i_going, .int p_i_writesLeft])), (hd, .inl (cD, 8, .inr (.inr (.inr (.inr (fun _ => none)))))), (ho, .inl (cO, 1, .inr (.inl (vp_updL (fo) (Int32.toNatClampNeg 0) (0)))))] H := hP
  replace hD : va_D A [(h0, .inr (0, [.ref hd, v_buffer, v_fetched, v_compared, v_maker, v_writer, .ref hp, .int i_madeDocuments, .int i_fetchedSteps])), (hp, .inr (4, [.int 0, .int p_i_going, .int p_i_writesLeft])), (hd, .inl (cD, 8, .inr (.inr (.inr (.inr (fun _ => none)))))), (ho, .inl (cO, 1, .inr (.inl (vp_updL (fo) (Int32.toNatClampNeg 0) (0)))))] := hD
  refine lv_goto (tgt := 22) hx hb d_L_dropDocument_16 (by decide) ?_
  refine lv_iconst (v := 0) hx hb d_L_dropDocument_22 (by decide) ?_
  have hP9 := hP.sub (ws' := [(ho, .inl (cO, 1, .inr (.inl ((vp_updL (fo) (Int32.toNatClampNeg 0) (0))))))]) [3] rfl
  have hD9 := hD.sub (ws' := [(ho, .inl (cO, 1, .inr (.inl ((vp_updL (fo) (Int32.toNatClampNeg 0) (0))))))]) [3] (by decide) rfl
  have hK9 := hK.sub (tys' := [(cO, .long)]) [1] rfl
  exact W.iret (v := 0) hx hb hr (fun t ht hW => ⟨⟨0, (), rfl, rfl, (vp_updL (fo) (Int32.toNatClampNeg 0) (0)), x_up0, by rw [ht]; exact hP9, va_K.moved hW.alike hK9, hD9⟩, hS.F ht⟩) hS.2.2 d_L_dropDocument_23
set_option maxHeartbeats 4000000 in
set_option maxRecDepth 100000 in
theorem w_pieceByte (l : Launch) (dC : Nat → ClassId) (dI : Nat → Nat → Nat) (sz : Nat) (h0 : Nat) (v_buffer : Value) (v_fetched : Value) (v_compared : Value) (v_maker : Value) (v_writer : Value) (i_madeDocuments : Int32) (i_fetchedSteps : Int32) (hp : Nat) (p_i_going : Int32) (p_i_writesLeft : Int32) (hd : Nat) (cD : ClassId) (a1 : Int32) (a2 : Int32) (a3 : Int32) (ho : Nat) (cO : ClassId) (fo : Nat → Int64)  : Met l y_L_pieceByte k_L_pieceByte ({ frames := 3, cells := 0, slots := 0, locals := 68 } : Room) (va_Pc [.ref h0, .int a1, .int a2, .int a3, .ref ho] (pc_E (dC, dI) [(h0, .inr (0, [.ref hd, v_buffer, v_fetched, v_compared, v_maker, v_writer, .ref hp, .int i_madeDocuments, .int i_fetchedSteps])), (hp, .inr (4, [.int 0, .int p_i_going, .int p_i_writesLeft])), (hd, .inl (cD, 8, .inr (.inr (.inr (.inr (fun _ => none)))))), (ho, .inl (cO, 1, .inr (.inl (fo))))] [(cD, .object R_D), (cO, .long)] sz)) (va_Qi (fun (r : Int32) (_ : Unit) => r = 0) (fun (_ : Unit) t => ∃ (g : Nat → Int64), (g 0 = (-1)) ∧ at_E (dC, dI) (va_A [(h0, .inr (0, [.ref hd, v_buffer, v_fetched, v_compared, v_maker, v_writer, .ref hp, .int i_madeDocuments, .int i_fetchedSteps])), (hp, .inr (4, [.int 0, .int p_i_going, .int p_i_writesLeft])), (hd, .inl (cD, 8, .inr (.inr (.inr (.inr (fun _ => none)))))), (ho, .inl (cO, 1, .inr (.inl (fo))))] sz) [(ho, .inl (cO, 1, .inr (.inl (g))))] [(cO, .long)] t) (va_A [(h0, .inr (0, [.ref hd, v_buffer, v_fetched, v_compared, v_maker, v_writer, .ref hp, .int i_madeDocuments, .int i_fetchedSteps])), (hp, .inr (4, [.int 0, .int p_i_going, .int p_i_writesLeft])), (hd, .inl (cD, 8, .inr (.inr (.inr (.inr (fun _ => none)))))), (ho, .inl (cO, 1, .inr (.inl (fo))))] sz)) 0 0 (va_A [(h0, .inr (0, [.ref hd, v_buffer, v_fetched, v_compared, v_maker, v_writer, .ref hp, .int i_madeDocuments, .int i_fetchedSteps])), (hp, .inr (4, [.int 0, .int p_i_going, .int p_i_writesLeft])), (hd, .inl (cD, 8, .inr (.inr (.inr (.inr (fun _ => none)))))), (ho, .inl (cO, 1, .inr (.inl (fo))))] sz) := by
  refine va_MetW (hh := [(0, 12, 15, 13)]) (cc := method_14_code) (maxL := 6) (ret := (some .int)) (by decide) rfl ?_
  intro p e s m args below meth c s₁ B hml hv
  obtain ⟨rfl, hsz, hP, hK, hD0, hN⟩ := hv
  have hx := B.exec
  have hb := B.bytes
  have hr := B.returns
  have hts := atoms_spec (ws := k_L_pieceByte) B.pre
  have hw0 : ∀ w ∈ w0, w.before _ s = true := fun w h => hts w (List.mem_cons_of_mem _ h)
  have hown : s.vm.findClass R_L = some m.cls := findClass_of_methodNamed B.named
  have hlocks := B.notSynchronized
  subst hsz
  have hD := hD0.self (sz := s.heap.size)
  generalize hAe : va_A [(h0, .inr (0, [.ref hd, v_buffer, v_fetched, v_compared, v_maker, v_writer, .ref hp, .int i_madeDocuments, .int i_fetchedSteps])), (hp, .inr (4, [.int 0, .int p_i_going, .int p_i_writesLeft])), (hd, .inl (cD, 8, .inr (.inr (.inr (.inr (fun _ => none)))))), (ho, .inl (cO, 1, .inr (.inl (fo))))] s.heap.size = A at hD ⊢
  have hA : ∀ q : Nat, s.heap.size ≤ q → A q := fun q h => by rw [← hAe]; exact Or.inr h
  have hS : va_S A s.heap s.heap [] := va_S.rf
  have hP : va_P (dC, dI) vwCl [(h0, .inr (0, [.ref hd, v_buffer, v_fetched, v_compared, v_maker, v_writer, .ref hp, .int i_madeDocuments, .int i_fetchedSteps])), (hp, .inr (4, [.int 0, .int p_i_going, .int p_i_writesLeft])), (hd, .inl (cD, 8, .inr (.inr (.inr (.inr (fun _ => none)))))), (ho, .inl (cO, 1, .inr (.inl (fo))))] s.heap := hP
  have hl := lv_entry ([.ref h0, .int a1, .int a2, .int a3, .ref ho]) (n := 6) (Nat.le_of_ble_eq_true rfl)
  rw [lg_entry_eq]
  generalize (lg_sl ([.ref h0, .int a1, .int a2, .int a3, .ref ho]) ++ List.replicate (6 - (lg_sl ([.ref h0, .int a1, .int a2, .int a3, .ref ho])).length) Slot.unset).toArray = ls at hl ⊢
  have hl : lv_has ls 6 [(0, .ref h0), (1, .int a1), (2, .int a2), (3, .int a3), (4, .ref ho)] := hl
  refine lv_aload hx hb d_L_pieceByte_0 (lv_at hl 4 rfl) ?_
  refine lv_iconst (v := 0) hx hb d_L_pieceByte_2 (by decide) ?_
  refine lv_aload_n hx hb d_L_pieceByte_3 rfl (lv_at hl 0 rfl) ?_
  refine lv_iload_n hx hb d_L_pieceByte_4 rfl (lv_at hl 1 rfl) ?_
  refine lv_iload_n hx hb d_L_pieceByte_5 rfl (lv_at hl 2 rfl) ?_
  refine lv_iload_n hx hb d_L_pieceByte_6 rfl (lv_at hl 3 rfl) ?_
  have hPc := hP.sub (ws' := [(h0, .inr (0, [.ref hd, v_buffer, v_fetched, v_compared, v_maker, v_writer, .ref hp, .int i_madeDocuments, .int i_fetchedSteps])), (hp, .inr (4, [.int 0, .int p_i_going, .int p_i_writesLeft])), (hd, .inl (cD, 8, .inr (.inr (.inr (.inr (fun _ => none))))))]) [0, 1, 2] rfl
  have hKc := hK.sub (tys' := [(cD, .object R_D)]) [0] rfl
  refine ps_i (va_runV (As := [.int a1, .int a2, .int a3]) (rest := [.int 0, .ref ho]) ⟨hx, hb, hml, hown, hw0⟩ (c_pieceByte l dC dI h0 v_buffer v_fetched v_compared v_maker v_writer i_madeDocuments i_fetchedSteps hp p_i_going p_i_writesLeft hd cD a1 a2 a3) (cwV 3 hw0 (gd_V 308 309 310 111 311 rfl rfl rfl rfl rfl) rfl rfl rfl (by decide +kernel) ⟨by decide +kernel, by decide +kernel⟩) (prV_R hPc hKc hN (va_recv hKc hPc (ci := 0) (q0 := 0) rfl rfl)) rfl rfl hl.1 rfl (lv_room (Nat.le_of_ble_eq_true rfl)) d_L_pieceByte_7 ⟨by decide +kernel, by decide +kernel⟩) (fun r_1 hr_1 => ?_)
  obtain rfl : r_1 = (-1) := hr_1
  refine lv_i2l (v := (-1)) hx hb d_L_pieceByte_10 (by decide +kernel) ?_
  refine va_last hx hb hK hP hD hS 3 1 rfl rfl (by unfold vp_in; decide +kernel) d_L_pieceByte_11 (fun H locs hP hD hS => ?_)
  replace hP : va_P (dC, dI) vwCl [(h0, .inr (0, [.ref hd, v_buffer, v_fetched, v_compared, v_maker, v_writer, .ref hp, .int i_madeDocuments, .int i_fetchedSteps])), (hp, .inr (4, [.int 0, .int p_i_going, .int p_i_writesLeft])), (hd, .inl (cD, 8, .inr (.inr (.inr (.inr (fun _ => none)))))), (ho, .inl (cO, 1, .inr (.inl (vp_updL (fo) (Int32.toNatClampNeg 0) ((-1))))))] H := hP
  replace hD : va_D A [(h0, .inr (0, [.ref hd, v_buffer, v_fetched, v_compared, v_maker, v_writer, .ref hp, .int i_madeDocuments, .int i_fetchedSteps])), (hp, .inr (4, [.int 0, .int p_i_going, .int p_i_writesLeft])), (hd, .inl (cD, 8, .inr (.inr (.inr (.inr (fun _ => none)))))), (ho, .inl (cO, 1, .inr (.inl (vp_updL (fo) (Int32.toNatClampNeg 0) ((-1))))))] := hD
  refine lv_goto (tgt := 19) hx hb d_L_pieceByte_12 (by decide) ?_
  refine lv_iconst (v := 0) hx hb d_L_pieceByte_19 (by decide) ?_
  have hP9 := hP.sub (ws' := [(ho, .inl (cO, 1, .inr (.inl ((vp_updL (fo) (Int32.toNatClampNeg 0) ((-1)))))))]) [3] rfl
  have hD9 := hD.sub (ws' := [(ho, .inl (cO, 1, .inr (.inl ((vp_updL (fo) (Int32.toNatClampNeg 0) ((-1)))))))]) [3] (by decide) rfl
  have hK9 := hK.sub (tys' := [(cO, .long)]) [1] rfl
  exact W.iret (v := 0) hx hb hr (fun t ht hW => ⟨⟨0, (), rfl, rfl, (vp_updL (fo) (Int32.toNatClampNeg 0) ((-1))), x_up0, by rw [ht]; exact hP9, va_K.moved hW.alike hK9, hD9⟩, hS.F ht⟩) hS.2.2 d_L_pieceByte_20
set_option maxHeartbeats 4000000 in
set_option maxRecDepth 100000 in
theorem w_damage (l : Launch) (dC : Nat → ClassId) (dI : Nat → Nat → Nat) (sz : Nat) (h0 : Nat) (v_buffer : Value) (v_fetched : Value) (v_compared : Value) (v_maker : Value) (v_writer : Value) (i_madeDocuments : Int32) (i_fetchedSteps : Int32) (hp : Nat) (p_i_going : Int32) (p_i_writesLeft : Int32) (hd : Nat) (cD : ClassId) (a1 : Int32) (a2 : Int32) (a3 : Int32) (a4 : Int32) (ho : Nat) (cO : ClassId) (fo : Nat → Int64)  : Met l y_L_damage k_L_damage ({ frames := 3, cells := 0, slots := 0, locals := 69 } : Room) (va_Pc [.ref h0, .int a1, .int a2, .int a3, .int a4, .ref ho] (pc_E (dC, dI) [(h0, .inr (0, [.ref hd, v_buffer, v_fetched, v_compared, v_maker, v_writer, .ref hp, .int i_madeDocuments, .int i_fetchedSteps])), (hp, .inr (4, [.int 0, .int p_i_going, .int p_i_writesLeft])), (hd, .inl (cD, 8, .inr (.inr (.inr (.inr (fun _ => none)))))), (ho, .inl (cO, 1, .inr (.inl (fo))))] [(cD, .object R_D), (cO, .long)] sz)) (va_Qi (fun (r : Int32) (_ : Unit) => r = 0) (fun (_ : Unit) t => ∃ (g : Nat → Int64), (g 0 = 0) ∧ at_E (dC, dI) (va_A [(h0, .inr (0, [.ref hd, v_buffer, v_fetched, v_compared, v_maker, v_writer, .ref hp, .int i_madeDocuments, .int i_fetchedSteps])), (hp, .inr (4, [.int 0, .int p_i_going, .int p_i_writesLeft])), (hd, .inl (cD, 8, .inr (.inr (.inr (.inr (fun _ => none)))))), (ho, .inl (cO, 1, .inr (.inl (fo))))] sz) [(ho, .inl (cO, 1, .inr (.inl (g))))] [(cO, .long)] t) (va_A [(h0, .inr (0, [.ref hd, v_buffer, v_fetched, v_compared, v_maker, v_writer, .ref hp, .int i_madeDocuments, .int i_fetchedSteps])), (hp, .inr (4, [.int 0, .int p_i_going, .int p_i_writesLeft])), (hd, .inl (cD, 8, .inr (.inr (.inr (.inr (fun _ => none)))))), (ho, .inl (cO, 1, .inr (.inl (fo))))] sz)) 0 0 (va_A [(h0, .inr (0, [.ref hd, v_buffer, v_fetched, v_compared, v_maker, v_writer, .ref hp, .int i_madeDocuments, .int i_fetchedSteps])), (hp, .inr (4, [.int 0, .int p_i_going, .int p_i_writesLeft])), (hd, .inl (cD, 8, .inr (.inr (.inr (.inr (fun _ => none)))))), (ho, .inl (cO, 1, .inr (.inl (fo))))] sz) := by
  refine va_MetW (hh := [(0, 21, 24, 13)]) (cc := method_15_code) (maxL := 7) (ret := (some .int)) (by decide) rfl ?_
  intro p e s m args below meth c s₁ B hml hv
  obtain ⟨rfl, hsz, hP, hK, hD0, hN⟩ := hv
  have hx := B.exec
  have hb := B.bytes
  have hr := B.returns
  have hts := atoms_spec (ws := k_L_damage) B.pre
  have hw0 : ∀ w ∈ w0, w.before _ s = true := fun w h => hts w (List.mem_cons_of_mem _ h)
  have hown : s.vm.findClass R_L = some m.cls := findClass_of_methodNamed B.named
  have hlocks := B.notSynchronized
  subst hsz
  have hD := hD0.self (sz := s.heap.size)
  generalize hAe : va_A [(h0, .inr (0, [.ref hd, v_buffer, v_fetched, v_compared, v_maker, v_writer, .ref hp, .int i_madeDocuments, .int i_fetchedSteps])), (hp, .inr (4, [.int 0, .int p_i_going, .int p_i_writesLeft])), (hd, .inl (cD, 8, .inr (.inr (.inr (.inr (fun _ => none)))))), (ho, .inl (cO, 1, .inr (.inl (fo))))] s.heap.size = A at hD ⊢
  have hA : ∀ q : Nat, s.heap.size ≤ q → A q := fun q h => by rw [← hAe]; exact Or.inr h
  have hS : va_S A s.heap s.heap [] := va_S.rf
  have hP : va_P (dC, dI) vwCl [(h0, .inr (0, [.ref hd, v_buffer, v_fetched, v_compared, v_maker, v_writer, .ref hp, .int i_madeDocuments, .int i_fetchedSteps])), (hp, .inr (4, [.int 0, .int p_i_going, .int p_i_writesLeft])), (hd, .inl (cD, 8, .inr (.inr (.inr (.inr (fun _ => none)))))), (ho, .inl (cO, 1, .inr (.inl (fo))))] s.heap := hP
  have hl := lv_entry ([.ref h0, .int a1, .int a2, .int a3, .int a4, .ref ho]) (n := 7) (Nat.le_of_ble_eq_true rfl)
  rw [lg_entry_eq]
  generalize (lg_sl ([.ref h0, .int a1, .int a2, .int a3, .int a4, .ref ho]) ++ List.replicate (7 - (lg_sl ([.ref h0, .int a1, .int a2, .int a3, .int a4, .ref ho])).length) Slot.unset).toArray = ls at hl ⊢
  have hl : lv_has ls 7 [(0, .ref h0), (1, .int a1), (2, .int a2), (3, .int a3), (4, .int a4), (5, .ref ho)] := hl
  refine lv_aload hx hb d_L_damage_0 (lv_at hl 5 rfl) ?_
  refine lv_iconst (v := 0) hx hb d_L_damage_2 (by decide) ?_
  refine lv_aload_n hx hb d_L_damage_3 rfl (lv_at hl 0 rfl) ?_
  refine lv_iload_n hx hb d_L_damage_4 rfl (lv_at hl 1 rfl) ?_
  refine lv_iload_n hx hb d_L_damage_5 rfl (lv_at hl 2 rfl) ?_
  refine lv_iload_n hx hb d_L_damage_6 rfl (lv_at hl 3 rfl) ?_
  refine lv_iload hx hb d_L_damage_7 (lv_at hl 4 rfl) ?_
  have hPc := hP.sub (ws' := [(h0, .inr (0, [.ref hd, v_buffer, v_fetched, v_compared, v_maker, v_writer, .ref hp, .int i_madeDocuments, .int i_fetchedSteps])), (hp, .inr (4, [.int 0, .int p_i_going, .int p_i_writesLeft])), (hd, .inl (cD, 8, .inr (.inr (.inr (.inr (fun _ => none))))))]) [0, 1, 2] rfl
  have hKc := hK.sub (tys' := [(cD, .object R_D)]) [0] rfl
  refine ps_i (va_runV (As := [.int a1, .int a2, .int a3, .int a4]) (rest := [.int 0, .ref ho]) ⟨hx, hb, hml, hown, hw0⟩ (c_damage l dC dI h0 v_buffer v_fetched v_compared v_maker v_writer i_madeDocuments i_fetchedSteps hp p_i_going p_i_writesLeft hd cD a1 a2 a3 a4) (cwV 4 hw0 (gd_V 312 313 314 111 315 rfl rfl rfl rfl rfl) rfl rfl rfl (by decide +kernel) ⟨by decide +kernel, by decide +kernel⟩) (prV_R hPc hKc hN (va_recv hKc hPc (ci := 0) (q0 := 0) rfl rfl)) rfl rfl hl.1 rfl (lv_room (Nat.le_of_ble_eq_true rfl)) d_L_damage_9 ⟨by decide +kernel, by decide +kernel⟩) (fun r_1 hr_1 => ?_)
  obtain rfl : r_1 = 0 := hr_1
  refine lv_if_eq (tgt := 19) hx hb d_L_damage_12 (by decide) (fun _ => ?_) (fun h9 => absurd h9 (by decide +kernel))
  refine lv_lconst (v := 0) hx hb d_L_damage_19 (by decide) ?_
  refine va_last hx hb hK hP hD hS 3 1 rfl rfl (by unfold vp_in; decide +kernel) d_L_damage_20 (fun H locs hP hD hS => ?_)
  replace hP : va_P (dC, dI) vwCl [(h0, .inr (0, [.ref hd, v_buffer, v_fetched, v_compared, v_maker, v_writer, .ref hp, .int i_madeDocuments, .int i_fetchedSteps])), (hp, .inr (4, [.int 0, .int p_i_going, .int p_i_writesLeft])), (hd, .inl (cD, 8, .inr (.inr (.inr (.inr (fun _ => none)))))), (ho, .inl (cO, 1, .inr (.inl (vp_updL (fo) (Int32.toNatClampNeg 0) (0)))))] H := hP
  replace hD : va_D A [(h0, .inr (0, [.ref hd, v_buffer, v_fetched, v_compared, v_maker, v_writer, .ref hp, .int i_madeDocuments, .int i_fetchedSteps])), (hp, .inr (4, [.int 0, .int p_i_going, .int p_i_writesLeft])), (hd, .inl (cD, 8, .inr (.inr (.inr (.inr (fun _ => none)))))), (ho, .inl (cO, 1, .inr (.inl (vp_updL (fo) (Int32.toNatClampNeg 0) (0)))))] := hD
  refine lv_goto (tgt := 28) hx hb d_L_damage_21 (by decide) ?_
  refine lv_iconst (v := 0) hx hb d_L_damage_28 (by decide) ?_
  have hP9 := hP.sub (ws' := [(ho, .inl (cO, 1, .inr (.inl ((vp_updL (fo) (Int32.toNatClampNeg 0) (0))))))]) [3] rfl
  have hD9 := hD.sub (ws' := [(ho, .inl (cO, 1, .inr (.inl ((vp_updL (fo) (Int32.toNatClampNeg 0) (0))))))]) [3] (by decide) rfl
  have hK9 := hK.sub (tys' := [(cO, .long)]) [1] rfl
  exact W.iret (v := 0) hx hb hr (fun t ht hW => ⟨⟨0, (), rfl, rfl, (vp_updL (fo) (Int32.toNatClampNeg 0) (0)), x_up0, by rw [ht]; exact hP9, va_K.moved hW.alike hK9, hD9⟩, hS.F ht⟩) hS.2.2 d_L_damage_29
set_option maxHeartbeats 4000000 in
set_option maxRecDepth 100000 in
theorem w_verify (l : Launch) (dC : Nat → ClassId) (dI : Nat → Nat → Nat) (sz : Nat) (h0 : Nat) (v_buffer : Value) (v_fetched : Value) (v_compared : Value) (v_maker : Value) (v_writer : Value) (i_madeDocuments : Int32) (i_fetchedSteps : Int32) (hp : Nat) (p_i_going : Int32) (p_i_writesLeft : Int32) (hd : Nat) (cD : ClassId) (a1 : Int32) (ho : Nat) (cO : ClassId) (fo : Nat → Int64)  : Met l y_L_verify k_L_verify ({ frames := 2, cells := 0, slots := 0, locals := 44 } : Room) (va_Pc [.ref h0, .int a1, .ref ho] (pc_E (dC, dI) [(h0, .inr (0, [.ref hd, v_buffer, v_fetched, v_compared, v_maker, v_writer, .ref hp, .int i_madeDocuments, .int i_fetchedSteps])), (hp, .inr (4, [.int 0, .int p_i_going, .int p_i_writesLeft])), (hd, .inl (cD, 8, .inr (.inr (.inr (.inr (fun _ => none)))))), (ho, .inl (cO, 1, .inr (.inl (fo))))] [(cD, .object R_D), (cO, .long)] sz)) (va_Qi (fun (r : Int32) (_ : Unit) => r = 0) (fun (_ : Unit) t => ∃ (g : Nat → Int64), (g 0 = (-1)) ∧ at_E (dC, dI) (va_A [(h0, .inr (0, [.ref hd, v_buffer, v_fetched, v_compared, v_maker, v_writer, .ref hp, .int i_madeDocuments, .int i_fetchedSteps])), (hp, .inr (4, [.int 0, .int p_i_going, .int p_i_writesLeft])), (hd, .inl (cD, 8, .inr (.inr (.inr (.inr (fun _ => none)))))), (ho, .inl (cO, 1, .inr (.inl (fo))))] sz) [(ho, .inl (cO, 1, .inr (.inl (g))))] [(cO, .long)] t) (va_A [(h0, .inr (0, [.ref hd, v_buffer, v_fetched, v_compared, v_maker, v_writer, .ref hp, .int i_madeDocuments, .int i_fetchedSteps])), (hp, .inr (4, [.int 0, .int p_i_going, .int p_i_writesLeft])), (hd, .inl (cD, 8, .inr (.inr (.inr (.inr (fun _ => none)))))), (ho, .inl (cO, 1, .inr (.inl (fo))))] sz)) 0 0 (va_A [(h0, .inr (0, [.ref hd, v_buffer, v_fetched, v_compared, v_maker, v_writer, .ref hp, .int i_madeDocuments, .int i_fetchedSteps])), (hp, .inr (4, [.int 0, .int p_i_going, .int p_i_writesLeft])), (hd, .inl (cD, 8, .inr (.inr (.inr (.inr (fun _ => none)))))), (ho, .inl (cO, 1, .inr (.inl (fo))))] sz) := by
  refine va_MetW (hh := [(0, 9, 12, 13)]) (cc := method_16_code) (maxL := 4) (ret := (some .int)) (by decide) rfl ?_
  intro p e s m args below meth c s₁ B hml hv
  obtain ⟨rfl, hsz, hP, hK, hD0, hN⟩ := hv
  have hx := B.exec
  have hb := B.bytes
  have hr := B.returns
  have hts := atoms_spec (ws := k_L_verify) B.pre
  have hw0 : ∀ w ∈ w0, w.before _ s = true := fun w h => hts w (List.mem_cons_of_mem _ h)
  have hown : s.vm.findClass R_L = some m.cls := findClass_of_methodNamed B.named
  have hlocks := B.notSynchronized
  subst hsz
  have hD := hD0.self (sz := s.heap.size)
  generalize hAe : va_A [(h0, .inr (0, [.ref hd, v_buffer, v_fetched, v_compared, v_maker, v_writer, .ref hp, .int i_madeDocuments, .int i_fetchedSteps])), (hp, .inr (4, [.int 0, .int p_i_going, .int p_i_writesLeft])), (hd, .inl (cD, 8, .inr (.inr (.inr (.inr (fun _ => none)))))), (ho, .inl (cO, 1, .inr (.inl (fo))))] s.heap.size = A at hD ⊢
  have hA : ∀ q : Nat, s.heap.size ≤ q → A q := fun q h => by rw [← hAe]; exact Or.inr h
  have hS : va_S A s.heap s.heap [] := va_S.rf
  have hP : va_P (dC, dI) vwCl [(h0, .inr (0, [.ref hd, v_buffer, v_fetched, v_compared, v_maker, v_writer, .ref hp, .int i_madeDocuments, .int i_fetchedSteps])), (hp, .inr (4, [.int 0, .int p_i_going, .int p_i_writesLeft])), (hd, .inl (cD, 8, .inr (.inr (.inr (.inr (fun _ => none)))))), (ho, .inl (cO, 1, .inr (.inl (fo))))] s.heap := hP
  have hl := lv_entry ([.ref h0, .int a1, .ref ho]) (n := 4) (Nat.le_of_ble_eq_true rfl)
  rw [lg_entry_eq]
  generalize (lg_sl ([.ref h0, .int a1, .ref ho]) ++ List.replicate (4 - (lg_sl ([.ref h0, .int a1, .ref ho])).length) Slot.unset).toArray = ls at hl ⊢
  have hl : lv_has ls 4 [(0, .ref h0), (1, .int a1), (2, .ref ho)] := hl
  refine lv_aload_n hx hb d_L_verify_0 rfl (lv_at hl 2 rfl) ?_
  refine lv_iconst (v := 0) hx hb d_L_verify_1 (by decide) ?_
  refine lv_aload_n hx hb d_L_verify_2 rfl (lv_at hl 0 rfl) ?_
  refine lv_iload_n hx hb d_L_verify_3 rfl (lv_at hl 1 rfl) ?_
  have hPc := hP.sub (ws' := [(h0, .inr (0, [.ref hd, v_buffer, v_fetched, v_compared, v_maker, v_writer, .ref hp, .int i_madeDocuments, .int i_fetchedSteps])), (hp, .inr (4, [.int 0, .int p_i_going, .int p_i_writesLeft])), (hd, .inl (cD, 8, .inr (.inr (.inr (.inr (fun _ => none))))))]) [0, 1, 2] rfl
  have hKc := hK.sub (tys' := [(cD, .object R_D)]) [0] rfl
  refine ps_i (va_runV (As := [.int a1]) (rest := [.int 0, .ref ho]) ⟨hx, hb, hml, hown, hw0⟩ (c_verify l dC dI h0 v_buffer v_fetched v_compared v_maker v_writer i_madeDocuments i_fetchedSteps hp p_i_going p_i_writesLeft hd cD a1) (cwV 1 hw0 (gd_V 316 317 318 111 319 rfl rfl rfl rfl rfl) rfl rfl rfl (by decide +kernel) ⟨by decide +kernel, by decide +kernel⟩) (prV_R hPc hKc hN (va_recv hKc hPc (ci := 0) (q0 := 0) rfl rfl)) rfl rfl hl.1 rfl (lv_room (Nat.le_of_ble_eq_true rfl)) d_L_verify_4 ⟨by decide +kernel, by decide +kernel⟩) (fun r_1 hr_1 => ?_)
  obtain rfl : r_1 = (-1) := hr_1
  refine lv_i2l (v := (-1)) hx hb d_L_verify_7 (by decide +kernel) ?_
  refine va_last hx hb hK hP hD hS 3 1 rfl rfl (by unfold vp_in; decide +kernel) d_L_verify_8 (fun H locs hP hD hS => ?_)
  replace hP : va_P (dC, dI) vwCl [(h0, .inr (0, [.ref hd, v_buffer, v_fetched, v_compared, v_maker, v_writer, .ref hp, .int i_madeDocuments, .int i_fetchedSteps])), (hp, .inr (4, [.int 0, .int p_i_going, .int p_i_writesLeft])), (hd, .inl (cD, 8, .inr (.inr (.inr (.inr (fun _ => none)))))), (ho, .inl (cO, 1, .inr (.inl (vp_updL (fo) (Int32.toNatClampNeg 0) ((-1))))))] H := hP
  replace hD : va_D A [(h0, .inr (0, [.ref hd, v_buffer, v_fetched, v_compared, v_maker, v_writer, .ref hp, .int i_madeDocuments, .int i_fetchedSteps])), (hp, .inr (4, [.int 0, .int p_i_going, .int p_i_writesLeft])), (hd, .inl (cD, 8, .inr (.inr (.inr (.inr (fun _ => none)))))), (ho, .inl (cO, 1, .inr (.inl (vp_updL (fo) (Int32.toNatClampNeg 0) ((-1))))))] := hD
  refine lv_goto (tgt := 15) hx hb d_L_verify_9 (by decide) ?_
  refine lv_iconst (v := 0) hx hb d_L_verify_15 (by decide) ?_
  have hP9 := hP.sub (ws' := [(ho, .inl (cO, 1, .inr (.inl ((vp_updL (fo) (Int32.toNatClampNeg 0) ((-1)))))))]) [3] rfl
  have hD9 := hD.sub (ws' := [(ho, .inl (cO, 1, .inr (.inl ((vp_updL (fo) (Int32.toNatClampNeg 0) ((-1)))))))]) [3] (by decide) rfl
  have hK9 := hK.sub (tys' := [(cO, .long)]) [1] rfl
  exact W.iret (v := 0) hx hb hr (fun t ht hW => ⟨⟨0, (), rfl, rfl, (vp_updL (fo) (Int32.toNatClampNeg 0) ((-1))), x_up0, by rw [ht]; exact hP9, va_K.moved hW.alike hK9, hD9⟩, hS.F ht⟩) hS.2.2 d_L_verify_16
set_option maxHeartbeats 4000000 in
set_option maxRecDepth 100000 in
theorem w_common (l : Launch) (dC : Nat → ClassId) (dI : Nat → Nat → Nat) (sz : Nat) (h0 : Nat) (v_buffer : Value) (v_fetched : Value) (v_compared : Value) (v_maker : Value) (v_writer : Value) (i_madeDocuments : Int32) (i_fetchedSteps : Int32) (hp : Nat) (p_i_going : Int32) (p_i_writesLeft : Int32) (hd : Nat) (cD : ClassId) (a1 : Int32) (a2 : Int32) (a3 : Int32) (a4 : Int32) (ho : Nat) (cO : ClassId) (fo : Nat → Int64)  : Met l y_L_common k_L_common ({ frames := 2, cells := 0, slots := 0, locals := 49 } : Room) (va_Pc [.ref h0, .int a1, .int a2, .int a3, .int a4, .ref ho] (pc_E (dC, dI) [(h0, .inr (0, [.ref hd, v_buffer, v_fetched, v_compared, v_maker, v_writer, .ref hp, .int i_madeDocuments, .int i_fetchedSteps])), (hp, .inr (4, [.int 0, .int p_i_going, .int p_i_writesLeft])), (hd, .inl (cD, 8, .inr (.inr (.inr (.inr (fun _ => none)))))), (ho, .inl (cO, 1, .inr (.inl (fo))))] [(cD, .object R_D), (cO, .long)] sz)) (va_Qi (fun (r : Int32) (_ : Unit) => r = 0) (fun (_ : Unit) t => ∃ (g : Nat → Int64), (g 0 = (-1)) ∧ at_E (dC, dI) (va_A [(h0, .inr (0, [.ref hd, v_buffer, v_fetched, v_compared, v_maker, v_writer, .ref hp, .int i_madeDocuments, .int i_fetchedSteps])), (hp, .inr (4, [.int 0, .int p_i_going, .int p_i_writesLeft])), (hd, .inl (cD, 8, .inr (.inr (.inr (.inr (fun _ => none)))))), (ho, .inl (cO, 1, .inr (.inl (fo))))] sz) [(ho, .inl (cO, 1, .inr (.inl (g))))] [(cO, .long)] t) (va_A [(h0, .inr (0, [.ref hd, v_buffer, v_fetched, v_compared, v_maker, v_writer, .ref hp, .int i_madeDocuments, .int i_fetchedSteps])), (hp, .inr (4, [.int 0, .int p_i_going, .int p_i_writesLeft])), (hd, .inl (cD, 8, .inr (.inr (.inr (.inr (fun _ => none)))))), (ho, .inl (cO, 1, .inr (.inl (fo))))] sz)) 0 0 (va_A [(h0, .inr (0, [.ref hd, v_buffer, v_fetched, v_compared, v_maker, v_writer, .ref hp, .int i_madeDocuments, .int i_fetchedSteps])), (hp, .inr (4, [.int 0, .int p_i_going, .int p_i_writesLeft])), (hd, .inl (cD, 8, .inr (.inr (.inr (.inr (fun _ => none)))))), (ho, .inl (cO, 1, .inr (.inl (fo))))] sz) := by
  refine va_MetW (hh := [(0, 14, 17, 13)]) (cc := method_17_code) (maxL := 7) (ret := (some .int)) (by decide) rfl ?_
  intro p e s m args below meth c s₁ B hml hv
  obtain ⟨rfl, hsz, hP, hK, hD0, hN⟩ := hv
  have hx := B.exec
  have hb := B.bytes
  have hr := B.returns
  have hts := atoms_spec (ws := k_L_common) B.pre
  have hw0 : ∀ w ∈ w0, w.before _ s = true := fun w h => hts w (List.mem_cons_of_mem _ h)
  have hown : s.vm.findClass R_L = some m.cls := findClass_of_methodNamed B.named
  have hlocks := B.notSynchronized
  subst hsz
  have hD := hD0.self (sz := s.heap.size)
  generalize hAe : va_A [(h0, .inr (0, [.ref hd, v_buffer, v_fetched, v_compared, v_maker, v_writer, .ref hp, .int i_madeDocuments, .int i_fetchedSteps])), (hp, .inr (4, [.int 0, .int p_i_going, .int p_i_writesLeft])), (hd, .inl (cD, 8, .inr (.inr (.inr (.inr (fun _ => none)))))), (ho, .inl (cO, 1, .inr (.inl (fo))))] s.heap.size = A at hD ⊢
  have hA : ∀ q : Nat, s.heap.size ≤ q → A q := fun q h => by rw [← hAe]; exact Or.inr h
  have hS : va_S A s.heap s.heap [] := va_S.rf
  have hP : va_P (dC, dI) vwCl [(h0, .inr (0, [.ref hd, v_buffer, v_fetched, v_compared, v_maker, v_writer, .ref hp, .int i_madeDocuments, .int i_fetchedSteps])), (hp, .inr (4, [.int 0, .int p_i_going, .int p_i_writesLeft])), (hd, .inl (cD, 8, .inr (.inr (.inr (.inr (fun _ => none)))))), (ho, .inl (cO, 1, .inr (.inl (fo))))] s.heap := hP
  have hl := lv_entry ([.ref h0, .int a1, .int a2, .int a3, .int a4, .ref ho]) (n := 7) (Nat.le_of_ble_eq_true rfl)
  rw [lg_entry_eq]
  generalize (lg_sl ([.ref h0, .int a1, .int a2, .int a3, .int a4, .ref ho]) ++ List.replicate (7 - (lg_sl ([.ref h0, .int a1, .int a2, .int a3, .int a4, .ref ho])).length) Slot.unset).toArray = ls at hl ⊢
  have hl : lv_has ls 7 [(0, .ref h0), (1, .int a1), (2, .int a2), (3, .int a3), (4, .int a4), (5, .ref ho)] := hl
  refine lv_aload hx hb d_L_common_0 (lv_at hl 5 rfl) ?_
  refine lv_iconst (v := 0) hx hb d_L_common_2 (by decide) ?_
  refine lv_aload_n hx hb d_L_common_3 rfl (lv_at hl 0 rfl) ?_
  refine lv_iload_n hx hb d_L_common_4 rfl (lv_at hl 1 rfl) ?_
  refine lv_iload_n hx hb d_L_common_5 rfl (lv_at hl 2 rfl) ?_
  refine lv_iload_n hx hb d_L_common_6 rfl (lv_at hl 3 rfl) ?_
  refine lv_iload hx hb d_L_common_7 (lv_at hl 4 rfl) ?_
  have hPc := hP.sub (ws' := [(h0, .inr (0, [.ref hd, v_buffer, v_fetched, v_compared, v_maker, v_writer, .ref hp, .int i_madeDocuments, .int i_fetchedSteps])), (hp, .inr (4, [.int 0, .int p_i_going, .int p_i_writesLeft])), (hd, .inl (cD, 8, .inr (.inr (.inr (.inr (fun _ => none))))))]) [0, 1, 2] rfl
  have hKc := hK.sub (tys' := [(cD, .object R_D)]) [0] rfl
  refine ps_i (va_runV (As := [.int a1, .int a2, .int a3, .int a4]) (rest := [.int 0, .ref ho]) ⟨hx, hb, hml, hown, hw0⟩ (c_common l dC dI h0 v_buffer v_fetched v_compared v_maker v_writer i_madeDocuments i_fetchedSteps hp p_i_going p_i_writesLeft hd cD a1 a2 a3 a4) (cwV 4 hw0 (gd_V 320 321 322 111 323 rfl rfl rfl rfl rfl) rfl rfl rfl (by decide +kernel) ⟨by decide +kernel, by decide +kernel⟩) (prV_R hPc hKc hN (va_recv hKc hPc (ci := 0) (q0 := 0) rfl rfl)) rfl rfl hl.1 rfl (lv_room (Nat.le_of_ble_eq_true rfl)) d_L_common_9 ⟨by decide +kernel, by decide +kernel⟩) (fun r_1 hr_1 => ?_)
  obtain rfl : r_1 = (-1) := hr_1
  refine lv_i2l (v := (-1)) hx hb d_L_common_12 (by decide +kernel) ?_
  refine va_last hx hb hK hP hD hS 3 1 rfl rfl (by unfold vp_in; decide +kernel) d_L_common_13 (fun H locs hP hD hS => ?_)
  replace hP : va_P (dC, dI) vwCl [(h0, .inr (0, [.ref hd, v_buffer, v_fetched, v_compared, v_maker, v_writer, .ref hp, .int i_madeDocuments, .int i_fetchedSteps])), (hp, .inr (4, [.int 0, .int p_i_going, .int p_i_writesLeft])), (hd, .inl (cD, 8, .inr (.inr (.inr (.inr (fun _ => none)))))), (ho, .inl (cO, 1, .inr (.inl (vp_updL (fo) (Int32.toNatClampNeg 0) ((-1))))))] H := hP
  replace hD : va_D A [(h0, .inr (0, [.ref hd, v_buffer, v_fetched, v_compared, v_maker, v_writer, .ref hp, .int i_madeDocuments, .int i_fetchedSteps])), (hp, .inr (4, [.int 0, .int p_i_going, .int p_i_writesLeft])), (hd, .inl (cD, 8, .inr (.inr (.inr (.inr (fun _ => none)))))), (ho, .inl (cO, 1, .inr (.inl (vp_updL (fo) (Int32.toNatClampNeg 0) ((-1))))))] := hD
  refine lv_goto (tgt := 21) hx hb d_L_common_14 (by decide) ?_
  refine lv_iconst (v := 0) hx hb d_L_common_21 (by decide) ?_
  have hP9 := hP.sub (ws' := [(ho, .inl (cO, 1, .inr (.inl ((vp_updL (fo) (Int32.toNatClampNeg 0) ((-1)))))))]) [3] rfl
  have hD9 := hD.sub (ws' := [(ho, .inl (cO, 1, .inr (.inl ((vp_updL (fo) (Int32.toNatClampNeg 0) ((-1)))))))]) [3] (by decide) rfl
  have hK9 := hK.sub (tys' := [(cO, .long)]) [1] rfl
  exact W.iret (v := 0) hx hb hr (fun t ht hW => ⟨⟨0, (), rfl, rfl, (vp_updL (fo) (Int32.toNatClampNeg 0) ((-1))), x_up0, by rw [ht]; exact hP9, va_K.moved hW.alike hK9, hD9⟩, hS.F ht⟩) hS.2.2 d_L_common_22
set_option maxHeartbeats 4000000 in
set_option maxRecDepth 100000 in
theorem w_freeBlocks (l : Launch) (dC : Nat → ClassId) (dI : Nat → Nat → Nat) (sz : Nat) (h0 : Nat) (v_buffer : Value) (v_fetched : Value) (v_compared : Value) (v_maker : Value) (v_writer : Value) (i_madeDocuments : Int32) (i_fetchedSteps : Int32) (hp : Nat) (p_i_going : Int32) (p_i_writesLeft : Int32) (hd : Nat) (cD : ClassId) (ho : Nat) (cO : ClassId) (fo : Nat → Int64)  : Met l y_L_freeBlocks k_L_freeBlocks ({ frames := 2, cells := 0, slots := 0, locals := 45 } : Room) (va_Pc [.ref h0, .ref ho] (pc_E (dC, dI) [(h0, .inr (0, [.ref hd, v_buffer, v_fetched, v_compared, v_maker, v_writer, .ref hp, .int i_madeDocuments, .int i_fetchedSteps])), (hp, .inr (4, [.int 0, .int p_i_going, .int p_i_writesLeft])), (hd, .inl (cD, 8, .inr (.inr (.inr (.inr (fun _ => none)))))), (ho, .inl (cO, 1, .inr (.inl (fo))))] [(cD, .object R_D), (cO, .long)] sz)) (va_Qi (fun (r : Int32) (_ : Unit) => r = 0) (fun (_ : Unit) t => ∃ (g : Nat → Int64), (g 0 = 512) ∧ at_E (dC, dI) (va_A [(h0, .inr (0, [.ref hd, v_buffer, v_fetched, v_compared, v_maker, v_writer, .ref hp, .int i_madeDocuments, .int i_fetchedSteps])), (hp, .inr (4, [.int 0, .int p_i_going, .int p_i_writesLeft])), (hd, .inl (cD, 8, .inr (.inr (.inr (.inr (fun _ => none)))))), (ho, .inl (cO, 1, .inr (.inl (fo))))] sz) [(ho, .inl (cO, 1, .inr (.inl (g))))] [(cO, .long)] t) (va_A [(h0, .inr (0, [.ref hd, v_buffer, v_fetched, v_compared, v_maker, v_writer, .ref hp, .int i_madeDocuments, .int i_fetchedSteps])), (hp, .inr (4, [.int 0, .int p_i_going, .int p_i_writesLeft])), (hd, .inl (cD, 8, .inr (.inr (.inr (.inr (fun _ => none)))))), (ho, .inl (cO, 1, .inr (.inl (fo))))] sz)) 0 0 (va_A [(h0, .inr (0, [.ref hd, v_buffer, v_fetched, v_compared, v_maker, v_writer, .ref hp, .int i_madeDocuments, .int i_fetchedSteps])), (hp, .inr (4, [.int 0, .int p_i_going, .int p_i_writesLeft])), (hd, .inl (cD, 8, .inr (.inr (.inr (.inr (fun _ => none)))))), (ho, .inl (cO, 1, .inr (.inl (fo))))] sz) := by
  refine va_MetW (hh := [(0, 8, 11, 13)]) (cc := method_18_code) (maxL := 3) (ret := (some .int)) (by decide) rfl ?_
  intro p e s m args below meth c s₁ B hml hv
  obtain ⟨rfl, hsz, hP, hK, hD0, hN⟩ := hv
  have hx := B.exec
  have hb := B.bytes
  have hr := B.returns
  have hts := atoms_spec (ws := k_L_freeBlocks) B.pre
  have hw0 : ∀ w ∈ w0, w.before _ s = true := fun w h => hts w (List.mem_cons_of_mem _ h)
  have hown : s.vm.findClass R_L = some m.cls := findClass_of_methodNamed B.named
  have hlocks := B.notSynchronized
  subst hsz
  have hD := hD0.self (sz := s.heap.size)
  generalize hAe : va_A [(h0, .inr (0, [.ref hd, v_buffer, v_fetched, v_compared, v_maker, v_writer, .ref hp, .int i_madeDocuments, .int i_fetchedSteps])), (hp, .inr (4, [.int 0, .int p_i_going, .int p_i_writesLeft])), (hd, .inl (cD, 8, .inr (.inr (.inr (.inr (fun _ => none)))))), (ho, .inl (cO, 1, .inr (.inl (fo))))] s.heap.size = A at hD ⊢
  have hA : ∀ q : Nat, s.heap.size ≤ q → A q := fun q h => by rw [← hAe]; exact Or.inr h
  have hS : va_S A s.heap s.heap [] := va_S.rf
  have hP : va_P (dC, dI) vwCl [(h0, .inr (0, [.ref hd, v_buffer, v_fetched, v_compared, v_maker, v_writer, .ref hp, .int i_madeDocuments, .int i_fetchedSteps])), (hp, .inr (4, [.int 0, .int p_i_going, .int p_i_writesLeft])), (hd, .inl (cD, 8, .inr (.inr (.inr (.inr (fun _ => none)))))), (ho, .inl (cO, 1, .inr (.inl (fo))))] s.heap := hP
  have hl := lv_entry ([.ref h0, .ref ho]) (n := 3) (Nat.le_of_ble_eq_true rfl)
  rw [lg_entry_eq]
  generalize (lg_sl ([.ref h0, .ref ho]) ++ List.replicate (3 - (lg_sl ([.ref h0, .ref ho])).length) Slot.unset).toArray = ls at hl ⊢
  have hl : lv_has ls 3 [(0, .ref h0), (1, .ref ho)] := hl
  refine lv_aload_n hx hb d_L_freeBlocks_0 rfl (lv_at hl 1 rfl) ?_
  refine lv_iconst (v := 0) hx hb d_L_freeBlocks_1 (by decide) ?_
  refine lv_aload_n hx hb d_L_freeBlocks_2 rfl (lv_at hl 0 rfl) ?_
  have hPc := hP.sub (ws' := [(h0, .inr (0, [.ref hd, v_buffer, v_fetched, v_compared, v_maker, v_writer, .ref hp, .int i_madeDocuments, .int i_fetchedSteps])), (hp, .inr (4, [.int 0, .int p_i_going, .int p_i_writesLeft])), (hd, .inl (cD, 8, .inr (.inr (.inr (.inr (fun _ => none))))))]) [0, 1, 2] rfl
  have hKc := hK.sub (tys' := [(cD, .object R_D)]) [0] rfl
  refine ps_i (va_runV (As := []) (rest := [.int 0, .ref ho]) ⟨hx, hb, hml, hown, hw0⟩ (c_freeBlocks l dC dI h0 v_buffer v_fetched v_compared v_maker v_writer i_madeDocuments i_fetchedSteps hp p_i_going p_i_writesLeft hd cD) (cwV 0 hw0 (gd_V 324 325 326 111 327 rfl rfl rfl rfl rfl) rfl rfl rfl (by decide +kernel) ⟨by decide +kernel, by decide +kernel⟩) (prV_R hPc hKc hN (va_recv hKc hPc (ci := 0) (q0 := 0) rfl rfl)) rfl rfl hl.1 rfl (lv_room (Nat.le_of_ble_eq_true rfl)) d_L_freeBlocks_3 ⟨by decide +kernel, by decide +kernel⟩) (fun r_1 hr_1 => ?_)
  obtain rfl : r_1 = 512 := hr_1
  refine lv_i2l (v := 512) hx hb d_L_freeBlocks_6 (by decide +kernel) ?_
  refine va_last hx hb hK hP hD hS 3 1 rfl rfl (by unfold vp_in; decide +kernel) d_L_freeBlocks_7 (fun H locs hP hD hS => ?_)
  replace hP : va_P (dC, dI) vwCl [(h0, .inr (0, [.ref hd, v_buffer, v_fetched, v_compared, v_maker, v_writer, .ref hp, .int i_madeDocuments, .int i_fetchedSteps])), (hp, .inr (4, [.int 0, .int p_i_going, .int p_i_writesLeft])), (hd, .inl (cD, 8, .inr (.inr (.inr (.inr (fun _ => none)))))), (ho, .inl (cO, 1, .inr (.inl (vp_updL (fo) (Int32.toNatClampNeg 0) (512)))))] H := hP
  replace hD : va_D A [(h0, .inr (0, [.ref hd, v_buffer, v_fetched, v_compared, v_maker, v_writer, .ref hp, .int i_madeDocuments, .int i_fetchedSteps])), (hp, .inr (4, [.int 0, .int p_i_going, .int p_i_writesLeft])), (hd, .inl (cD, 8, .inr (.inr (.inr (.inr (fun _ => none)))))), (ho, .inl (cO, 1, .inr (.inl (vp_updL (fo) (Int32.toNatClampNeg 0) (512)))))] := hD
  refine lv_goto (tgt := 14) hx hb d_L_freeBlocks_8 (by decide) ?_
  refine lv_iconst (v := 0) hx hb d_L_freeBlocks_14 (by decide) ?_
  have hP9 := hP.sub (ws' := [(ho, .inl (cO, 1, .inr (.inl ((vp_updL (fo) (Int32.toNatClampNeg 0) (512))))))]) [3] rfl
  have hD9 := hD.sub (ws' := [(ho, .inl (cO, 1, .inr (.inl ((vp_updL (fo) (Int32.toNatClampNeg 0) (512))))))]) [3] (by decide) rfl
  have hK9 := hK.sub (tys' := [(cO, .long)]) [1] rfl
  exact W.iret (v := 0) hx hb hr (fun t ht hW => ⟨⟨0, (), rfl, rfl, (vp_updL (fo) (Int32.toNatClampNeg 0) (512)), x_up0, by rw [ht]; exact hP9, va_K.moved hW.alike hK9, hD9⟩, hS.F ht⟩) hS.2.2 d_L_freeBlocks_15
set_option maxHeartbeats 4000000 in
set_option maxRecDepth 100000 in
theorem w_cutAfter_T (l : Launch) (dC : Nat → ClassId) (dI : Nat → Nat → Nat) (sz : Nat) (h0 : Nat) (v_documents : Value) (v_buffer : Value) (v_fetched : Value) (v_compared : Value) (v_maker : Value) (v_writer : Value) (i_madeDocuments : Int32) (i_fetchedSteps : Int32) (hp : Nat) (p_i_going : Int32) (p_i_writesLeft : Int32) (a1 : Int32) (ho : Nat) (cO : ClassId) (fo : Nat → Int64) (h1 : ¬ a1 < 0) : Met l y_L_cutAfter k_L_cutAfter ({ frames := 2, cells := 0, slots := 0, locals := 42 } : Room) (va_Pc [.ref h0, .int a1, .ref ho] (pc_E (dC, dI) [(h0, .inr (0, [v_documents, v_buffer, v_fetched, v_compared, v_maker, v_writer, .ref hp, .int i_madeDocuments, .int i_fetchedSteps])), (hp, .inr (4, [.int 0, .int p_i_going, .int p_i_writesLeft])), (ho, .inl (cO, 1, .inr (.inl (fo))))] [(cO, .long)] sz)) (va_Qi (fun (r : Int32) (_ : Unit) => r = 0) (fun (_ : Unit) t => ∃ (g : Nat → Int64), (g 0 = 1) ∧ at_E (dC, dI) (va_A [(h0, .inr (0, [v_documents, v_buffer, v_fetched, v_compared, v_maker, v_writer, .ref hp, .int i_madeDocuments, .int i_fetchedSteps])), (hp, .inr (4, [.int 0, .int p_i_going, .int p_i_writesLeft])), (ho, .inl (cO, 1, .inr (.inl (fo))))] sz) [(ho, .inl (cO, 1, .inr (.inl (g))))] [(cO, .long)] t) (va_A [(h0, .inr (0, [v_documents, v_buffer, v_fetched, v_compared, v_maker, v_writer, .ref hp, .int i_madeDocuments, .int i_fetchedSteps])), (hp, .inr (4, [.int 0, .int p_i_going, .int p_i_writesLeft])), (ho, .inl (cO, 1, .inr (.inl (fo))))] sz)) 0 0 (va_A [(h0, .inr (0, [v_documents, v_buffer, v_fetched, v_compared, v_maker, v_writer, .ref hp, .int i_madeDocuments, .int i_fetchedSteps])), (hp, .inr (4, [.int 0, .int p_i_going, .int p_i_writesLeft])), (ho, .inl (cO, 1, .inr (.inl (fo))))] sz) := by
  refine va_MetW (hh := [(0, 16, 19, 13)]) (cc := method_19_code) (maxL := 4) (ret := (some .int)) (by decide) rfl ?_
  intro p e s m args below meth c s₁ B hml hv
  obtain ⟨rfl, hsz, hP, hK, hD0, hN⟩ := hv
  have hx := B.exec
  have hb := B.bytes
  have hr := B.returns
  have hts := atoms_spec (ws := k_L_cutAfter) B.pre
  have hw0 : ∀ w ∈ w0, w.before _ s = true := fun w h => hts w (List.mem_cons_of_mem _ h)
  have hown : s.vm.findClass R_L = some m.cls := findClass_of_methodNamed B.named
  have hlocks := B.notSynchronized
  subst hsz
  have hD := hD0.self (sz := s.heap.size)
  generalize hAe : va_A [(h0, .inr (0, [v_documents, v_buffer, v_fetched, v_compared, v_maker, v_writer, .ref hp, .int i_madeDocuments, .int i_fetchedSteps])), (hp, .inr (4, [.int 0, .int p_i_going, .int p_i_writesLeft])), (ho, .inl (cO, 1, .inr (.inl (fo))))] s.heap.size = A at hD ⊢
  have hA : ∀ q : Nat, s.heap.size ≤ q → A q := fun q h => by rw [← hAe]; exact Or.inr h
  have hS : va_S A s.heap s.heap [] := va_S.rf
  have hP : va_P (dC, dI) vwCl [(h0, .inr (0, [v_documents, v_buffer, v_fetched, v_compared, v_maker, v_writer, .ref hp, .int i_madeDocuments, .int i_fetchedSteps])), (hp, .inr (4, [.int 0, .int p_i_going, .int p_i_writesLeft])), (ho, .inl (cO, 1, .inr (.inl (fo))))] s.heap := hP
  have hl := lv_entry ([.ref h0, .int a1, .ref ho]) (n := 4) (Nat.le_of_ble_eq_true rfl)
  rw [lg_entry_eq]
  generalize (lg_sl ([.ref h0, .int a1, .ref ho]) ++ List.replicate (4 - (lg_sl ([.ref h0, .int a1, .ref ho])).length) Slot.unset).toArray = ls at hl ⊢
  have hl : lv_has ls 4 [(0, .ref h0), (1, .int a1), (2, .ref ho)] := hl
  refine lv_aload_n hx hb d_L_cutAfter_0 rfl (lv_at hl 2 rfl) ?_
  refine lv_iconst (v := 0) hx hb d_L_cutAfter_1 (by decide) ?_
  refine lv_aload_n hx hb d_L_cutAfter_2 rfl (lv_at hl 0 rfl) ?_
  refine lv_iload_n hx hb d_L_cutAfter_3 rfl (lv_at hl 1 rfl) ?_
  have hPc := hP.sub (ws' := [(h0, .inr (0, [v_documents, v_buffer, v_fetched, v_compared, v_maker, v_writer, .ref hp, .int i_madeDocuments, .int i_fetchedSteps])), (hp, .inr (4, [.int 0, .int p_i_going, .int p_i_writesLeft]))]) [0, 1] rfl
  have hKc := hK.sub (tys' := []) [] rfl
  have hDc := hD.sub (ws' := [(h0, .inr (0, [v_documents, v_buffer, v_fetched, v_compared, v_maker, v_writer, .ref hp, .int i_madeDocuments, .int i_fetchedSteps])), (hp, .inr (4, [.int 0, .int p_i_going, .int p_i_writesLeft]))]) [0, 1] (by decide) rfl
  have hFc := va_free (wc := [(h0, .inr (0, [v_documents, v_buffer, v_fetched, v_compared, v_maker, v_writer, .ref hp, .int i_madeDocuments, .int i_fetchedSteps])), (hp, .inr (4, [.int 0, .int p_i_going, .int p_i_writesLeft]))]) hD hS hA [0, 1] rfl
  refine va_calli (va_runV (As := [.int a1]) (rest := [.int 0, .ref ho]) ⟨hx, hb, hml, hown, hw0⟩ (c_cutAfter_T l dC dI s.heap.size h0 v_documents v_buffer v_fetched v_compared v_maker v_writer i_madeDocuments i_fetchedSteps hp p_i_going p_i_writesLeft a1 (by first | assumption | decide | omega)) (cwV 1 hw0 (gd_V 328 329 330 111 331 rfl rfl rfl rfl rfl) rfl rfl rfl (by decide +kernel) ⟨by decide +kernel, by decide +kernel⟩) (prV_E hPc hKc hDc hN (va_recv hKc hPc (ci := 0) (q0 := 0) rfl rfl)) rfl rfl hl.1 rfl (lv_room (Nat.le_of_ble_eq_true rfl)) d_L_cutAfter_4 ⟨by decide +kernel, by decide +kernel⟩) hS (fun q _ h => hFc q h) hFc (fun r_1 u t H1 locs ht hvm hw hB hz1 hk1 hS => ?_)
  obtain ⟨hP1, hK1, hD1⟩ := hB
  rw [ht] at hP1
  have hK1 := va_K.moved hvm.symm hK1
  try dsimp only at hw
  obtain ⟨hP, hD⟩ := va_join (wr := [(ho, .inl (cO, 1, .inr (.inl (fo))))]) (w1 := []) hP hD [0, 1] [2] rfl rfl (by decide) (by decide) hk1 hFc hP1 hD1
  generalize H1 = H at hP hS ⊢
  replace hP : va_P (dC, dI) vwCl [(ho, .inl (cO, 1, .inr (.inl (fo))))] H := hP
  replace hD : va_D A [(ho, .inl (cO, 1, .inr (.inl (fo))))] := hD
  replace hK : va_K (dC, dI) vwCl [(cO, .long)] s := hK
  obtain rfl : r_1 = 1 := hw
  refine lv_if_eq (tgt := 14) hx hb d_L_cutAfter_7 (by decide) (fun h9 => absurd h9 (by decide +kernel)) (fun _ => ?_)
  refine lv_lconst (v := 1) hx hb d_L_cutAfter_10 (by decide) ?_
  refine lv_goto (tgt := 15) hx hb d_L_cutAfter_11 (by decide) ?_
  refine va_last hx hb hK hP hD hS 0 0 rfl rfl (by unfold vp_in; decide +kernel) d_L_cutAfter_15 (fun H locs hP hD hS => ?_)
  replace hP : va_P (dC, dI) vwCl [(ho, .inl (cO, 1, .inr (.inl (vp_updL (fo) (Int32.toNatClampNeg 0) (1)))))] H := hP
  replace hD : va_D A [(ho, .inl (cO, 1, .inr (.inl (vp_updL (fo) (Int32.toNatClampNeg 0) (1)))))] := hD
  refine lv_goto (tgt := 22) hx hb d_L_cutAfter_16 (by decide) ?_
  refine lv_iconst (v := 0) hx hb d_L_cutAfter_22 (by decide) ?_
  have hP9 := hP.sub (ws' := [(ho, .inl (cO, 1, .inr (.inl ((vp_updL (fo) (Int32.toNatClampNeg 0) (1))))))]) [0] rfl
  have hD9 := hD.sub (ws' := [(ho, .inl (cO, 1, .inr (.inl ((vp_updL (fo) (Int32.toNatClampNeg 0) (1))))))]) [0] (by decide) rfl
  have hK9 := hK.sub (tys' := [(cO, .long)]) [0] rfl
  exact W.iret (v := 0) hx hb hr (fun t ht hW => ⟨⟨0, (), rfl, rfl, (vp_updL (fo) (Int32.toNatClampNeg 0) (1)), x_up0, by rw [ht]; exact hP9, va_K.moved hW.alike hK9, hD9⟩, hS.F ht⟩) hS.2.2 d_L_cutAfter_23
set_option maxHeartbeats 4000000 in
set_option maxRecDepth 100000 in
theorem w_cutAfter_F (l : Launch) (dC : Nat → ClassId) (dI : Nat → Nat → Nat) (sz : Nat) (h0 : Nat) (v_documents : Value) (v_buffer : Value) (v_fetched : Value) (v_compared : Value) (v_maker : Value) (v_writer : Value) (i_madeDocuments : Int32) (i_fetchedSteps : Int32) (hp : Nat) (p_i_going : Int32) (p_i_writesLeft : Int32) (a1 : Int32) (ho : Nat) (cO : ClassId) (fo : Nat → Int64) (h1 : a1 < 0) : Met l y_L_cutAfter k_L_cutAfter ({ frames := 2, cells := 0, slots := 0, locals := 41 } : Room) (va_Pc [.ref h0, .int a1, .ref ho] (pc_E (dC, dI) [(h0, .inr (0, [v_documents, v_buffer, v_fetched, v_compared, v_maker, v_writer, .ref hp, .int i_madeDocuments, .int i_fetchedSteps])), (hp, .inr (4, [.int 0, .int p_i_going, .int p_i_writesLeft])), (ho, .inl (cO, 1, .inr (.inl (fo))))] [(cO, .long)] sz)) (va_Qi (fun (r : Int32) (_ : Unit) => r = 0) (fun (_ : Unit) t => ∃ (g : Nat → Int64), (g 0 = 0) ∧ at_E (dC, dI) (va_A [(h0, .inr (0, [v_documents, v_buffer, v_fetched, v_compared, v_maker, v_writer, .ref hp, .int i_madeDocuments, .int i_fetchedSteps])), (hp, .inr (4, [.int 0, .int p_i_going, .int p_i_writesLeft])), (ho, .inl (cO, 1, .inr (.inl (fo))))] sz) [(ho, .inl (cO, 1, .inr (.inl (g))))] [(cO, .long)] t) (va_A [(h0, .inr (0, [v_documents, v_buffer, v_fetched, v_compared, v_maker, v_writer, .ref hp, .int i_madeDocuments, .int i_fetchedSteps])), (hp, .inr (4, [.int 0, .int p_i_going, .int p_i_writesLeft])), (ho, .inl (cO, 1, .inr (.inl (fo))))] sz)) 0 0 (va_A [(h0, .inr (0, [v_documents, v_buffer, v_fetched, v_compared, v_maker, v_writer, .ref hp, .int i_madeDocuments, .int i_fetchedSteps])), (hp, .inr (4, [.int 0, .int p_i_going, .int p_i_writesLeft])), (ho, .inl (cO, 1, .inr (.inl (fo))))] sz) := by
  refine va_MetW (hh := [(0, 16, 19, 13)]) (cc := method_19_code) (maxL := 4) (ret := (some .int)) (by decide) rfl ?_
  intro p e s m args below meth c s₁ B hml hv
  obtain ⟨rfl, hsz, hP, hK, hD0, hN⟩ := hv
  have hx := B.exec
  have hb := B.bytes
  have hr := B.returns
  have hts := atoms_spec (ws := k_L_cutAfter) B.pre
  have hw0 : ∀ w ∈ w0, w.before _ s = true := fun w h => hts w (List.mem_cons_of_mem _ h)
  have hown : s.vm.findClass R_L = some m.cls := findClass_of_methodNamed B.named
  have hlocks := B.notSynchronized
  subst hsz
  have hD := hD0.self (sz := s.heap.size)
  generalize hAe : va_A [(h0, .inr (0, [v_documents, v_buffer, v_fetched, v_compared, v_maker, v_writer, .ref hp, .int i_madeDocuments, .int i_fetchedSteps])), (hp, .inr (4, [.int 0, .int p_i_going, .int p_i_writesLeft])), (ho, .inl (cO, 1, .inr (.inl (fo))))] s.heap.size = A at hD ⊢
  have hA : ∀ q : Nat, s.heap.size ≤ q → A q := fun q h => by rw [← hAe]; exact Or.inr h
  have hS : va_S A s.heap s.heap [] := va_S.rf
  have hP : va_P (dC, dI) vwCl [(h0, .inr (0, [v_documents, v_buffer, v_fetched, v_compared, v_maker, v_writer, .ref hp, .int i_madeDocuments, .int i_fetchedSteps])), (hp, .inr (4, [.int 0, .int p_i_going, .int p_i_writesLeft])), (ho, .inl (cO, 1, .inr (.inl (fo))))] s.heap := hP
  have hl := lv_entry ([.ref h0, .int a1, .ref ho]) (n := 4) (Nat.le_of_ble_eq_true rfl)
  rw [lg_entry_eq]
  generalize (lg_sl ([.ref h0, .int a1, .ref ho]) ++ List.replicate (4 - (lg_sl ([.ref h0, .int a1, .ref ho])).length) Slot.unset).toArray = ls at hl ⊢
  have hl : lv_has ls 4 [(0, .ref h0), (1, .int a1), (2, .ref ho)] := hl
  refine lv_aload_n hx hb d_L_cutAfter_0 rfl (lv_at hl 2 rfl) ?_
  refine lv_iconst (v := 0) hx hb d_L_cutAfter_1 (by decide) ?_
  refine lv_aload_n hx hb d_L_cutAfter_2 rfl (lv_at hl 0 rfl) ?_
  refine lv_iload_n hx hb d_L_cutAfter_3 rfl (lv_at hl 1 rfl) ?_
  have hPc := hP.sub (ws' := [(h0, .inr (0, [v_documents, v_buffer, v_fetched, v_compared, v_maker, v_writer, .ref hp, .int i_madeDocuments, .int i_fetchedSteps])), (hp, .inr (4, [.int 0, .int p_i_going, .int p_i_writesLeft]))]) [0, 1] rfl
  have hKc := hK.sub (tys' := []) [] rfl
  refine ps_i (va_runV (As := [.int a1]) (rest := [.int 0, .ref ho]) ⟨hx, hb, hml, hown, hw0⟩ (c_cutAfter_F l dC dI h0 v_documents v_buffer v_fetched v_compared v_maker v_writer i_madeDocuments i_fetchedSteps hp p_i_going p_i_writesLeft a1 (by first | assumption | decide | omega)) (cwV 1 hw0 (gd_V 328 329 330 111 331 rfl rfl rfl rfl rfl) rfl rfl rfl (by decide +kernel) ⟨by decide +kernel, by decide +kernel⟩) (prV_R hPc hKc hN (va_recv hKc hPc (ci := 0) (q0 := 0) rfl rfl)) rfl rfl hl.1 rfl (lv_room (Nat.le_of_ble_eq_true rfl)) d_L_cutAfter_4 ⟨by decide +kernel, by decide +kernel⟩) (fun r_1 hr_1 => ?_)
  obtain rfl : r_1 = 0 := hr_1
  refine lv_if_eq (tgt := 14) hx hb d_L_cutAfter_7 (by decide) (fun _ => ?_) (fun h9 => absurd h9 (by decide +kernel))
  refine lv_lconst (v := 0) hx hb d_L_cutAfter_14 (by decide) ?_
  refine va_last hx hb hK hP hD hS 2 0 rfl rfl (by unfold vp_in; decide +kernel) d_L_cutAfter_15 (fun H locs hP hD hS => ?_)
  replace hP : va_P (dC, dI) vwCl [(h0, .inr (0, [v_documents, v_buffer, v_fetched, v_compared, v_maker, v_writer, .ref hp, .int i_madeDocuments, .int i_fetchedSteps])), (hp, .inr (4, [.int 0, .int p_i_going, .int p_i_writesLeft])), (ho, .inl (cO, 1, .inr (.inl (vp_updL (fo) (Int32.toNatClampNeg 0) (0)))))] H := hP
  replace hD : va_D A [(h0, .inr (0, [v_documents, v_buffer, v_fetched, v_compared, v_maker, v_writer, .ref hp, .int i_madeDocuments, .int i_fetchedSteps])), (hp, .inr (4, [.int 0, .int p_i_going, .int p_i_writesLeft])), (ho, .inl (cO, 1, .inr (.inl (vp_updL (fo) (Int32.toNatClampNeg 0) (0)))))] := hD
  refine lv_goto (tgt := 22) hx hb d_L_cutAfter_16 (by decide) ?_
  refine lv_iconst (v := 0) hx hb d_L_cutAfter_22 (by decide) ?_
  have hP9 := hP.sub (ws' := [(ho, .inl (cO, 1, .inr (.inl ((vp_updL (fo) (Int32.toNatClampNeg 0) (0))))))]) [2] rfl
  have hD9 := hD.sub (ws' := [(ho, .inl (cO, 1, .inr (.inl ((vp_updL (fo) (Int32.toNatClampNeg 0) (0))))))]) [2] (by decide) rfl
  have hK9 := hK.sub (tys' := [(cO, .long)]) [0] rfl
  exact W.iret (v := 0) hx hb hr (fun t ht hW => ⟨⟨0, (), rfl, rfl, (vp_updL (fo) (Int32.toNatClampNeg 0) (0)), x_up0, by rw [ht]; exact hP9, va_K.moved hW.alike hK9, hD9⟩, hS.F ht⟩) hS.2.2 d_L_cutAfter_23
end
