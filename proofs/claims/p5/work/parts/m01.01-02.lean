section
-- ===== PART A: goes FIRST, ahead of the names: the tables' words, and 'selects' of the private methods out of them =====
/-- a method of its own that the tables say can be made, by its rows of tables_1 -/
def lw_okq (q : MethodName × Nat) : Prop := (q.1.cls ≠ "java/lang/invoke/MethodHandle" ∧ q.1.cls ≠ "java/lang/invoke/VarHandle") ∧ Cond.instantiable q.1.cls q.2 ∈ tables_1 ∧ Cond.privateMethod q.1 ∈ tables_1 ∧ Cond.instanceMethod q.1 ∈ tables_1
theorem lw_p0 : lw_okq (⟨"TextKeeper", "needPower", "()V"⟩, 9) := ⟨⟨by decide +kernel, by decide +kernel⟩, List.mem_of_getElem? (i := 20) (by decide +kernel), List.mem_of_getElem? (i := 146) (by decide +kernel), List.mem_of_getElem? (i := 147) (by decide +kernel)⟩
theorem lw_p1 : lw_okq (⟨"java/lang/Throwable", "fillInStackTrace", "(I)Ljava/lang/Throwable;"⟩, 6) := ⟨⟨by decide +kernel, by decide +kernel⟩, List.mem_of_getElem? (i := 188) (by decide +kernel), List.mem_of_getElem? (i := 186) (by decide +kernel), List.mem_of_getElem? (i := 187) (by decide +kernel)⟩
theorem lw_p2 : lw_okq (⟨"TextKeeper", "spendWrites", "(I)V"⟩, 9) := ⟨⟨by decide +kernel, by decide +kernel⟩, List.mem_of_getElem? (i := 20) (by decide +kernel), List.mem_of_getElem? (i := 243) (by decide +kernel), List.mem_of_getElem? (i := 244) (by decide +kernel)⟩
theorem lw_p3 : lw_okq (⟨"TextKeeper", "documentAt", "(I)LTextKeeper$Document;"⟩, 9) := ⟨⟨by decide +kernel, by decide +kernel⟩, List.mem_of_getElem? (i := 20) (by decide +kernel), List.mem_of_getElem? (i := 277) (by decide +kernel), List.mem_of_getElem? (i := 278) (by decide +kernel)⟩
theorem lw_p4 : lw_okq (⟨"TextKeeper$Maker", "makeNext", "(LTextKeeper$Document;I)Z"⟩, 4) := ⟨⟨by decide +kernel, by decide +kernel⟩, List.mem_of_getElem? (i := 47) (by decide +kernel), List.mem_of_getElem? (i := 297) (by decide +kernel), List.mem_of_getElem? (i := 298) (by decide +kernel)⟩
theorem lw_p5 : lw_okq (⟨"TextKeeper$Maker", "obeyCommand", "()Z"⟩, 4) := ⟨⟨by decide +kernel, by decide +kernel⟩, List.mem_of_getElem? (i := 47) (by decide +kernel), List.mem_of_getElem? (i := 305) (by decide +kernel), List.mem_of_getElem? (i := 306) (by decide +kernel)⟩
theorem lw_p6 : lw_okq (⟨"TextKeeper$Maker", "readNumber", "()I"⟩, 4) := ⟨⟨by decide +kernel, by decide +kernel⟩, List.mem_of_getElem? (i := 47) (by decide +kernel), List.mem_of_getElem? (i := 309) (by decide +kernel), List.mem_of_getElem? (i := 310) (by decide +kernel)⟩
theorem lw_p7 : lw_okq (⟨"TextKeeper$Maker", "insert", "(I)Z"⟩, 4) := ⟨⟨by decide +kernel, by decide +kernel⟩, List.mem_of_getElem? (i := 47) (by decide +kernel), List.mem_of_getElem? (i := 314) (by decide +kernel), List.mem_of_getElem? (i := 315) (by decide +kernel)⟩
theorem lw_p8 : lw_okq (⟨"TextKeeper$Maker", "copy", "(I)Z"⟩, 4) := ⟨⟨by decide +kernel, by decide +kernel⟩, List.mem_of_getElem? (i := 47) (by decide +kernel), List.mem_of_getElem? (i := 319) (by decide +kernel), List.mem_of_getElem? (i := 320) (by decide +kernel)⟩
theorem lw_p9 : lw_okq (⟨"TextKeeper$PieceWriter", "writeDifferences", "(LTextKeeper$Text;LTextKeeper$Text;)V"⟩, 2) := ⟨⟨by decide +kernel, by decide +kernel⟩, List.mem_of_getElem? (i := 68) (by decide +kernel), List.mem_of_getElem? (i := 331) (by decide +kernel), List.mem_of_getElem? (i := 332) (by decide +kernel)⟩
theorem lw_p10 : lw_okq (⟨"TextKeeper$PieceWriter", "writeInsert", "(LTextKeeper$Text;II)V"⟩, 2) := ⟨⟨by decide +kernel, by decide +kernel⟩, List.mem_of_getElem? (i := 68) (by decide +kernel), List.mem_of_getElem? (i := 345) (by decide +kernel), List.mem_of_getElem? (i := 346) (by decide +kernel)⟩
theorem lw_p11 : lw_okq (⟨"TextKeeper$PieceWriter", "writeNumber", "(I)V"⟩, 2) := ⟨⟨by decide +kernel, by decide +kernel⟩, List.mem_of_getElem? (i := 68) (by decide +kernel), List.mem_of_getElem? (i := 349) (by decide +kernel), List.mem_of_getElem? (i := 350) (by decide +kernel)⟩
theorem lw_p12 : lw_okq (⟨"TextKeeper$PieceWriter", "writeByte", "(I)V"⟩, 2) := ⟨⟨by decide +kernel, by decide +kernel⟩, List.mem_of_getElem? (i := 68) (by decide +kernel), List.mem_of_getElem? (i := 356) (by decide +kernel), List.mem_of_getElem? (i := 357) (by decide +kernel)⟩
theorem lw_p13 : lw_okq (⟨"TextKeeper", "countFree", "()I"⟩, 9) := ⟨⟨by decide +kernel, by decide +kernel⟩, List.mem_of_getElem? (i := 20) (by decide +kernel), List.mem_of_getElem? (i := 378) (by decide +kernel), List.mem_of_getElem? (i := 379) (by decide +kernel)⟩
theorem lw_p14 : lw_okq (⟨"TextKeeper", "keptRevision", "(II)LTextKeeper$Revision;"⟩, 9) := ⟨⟨by decide +kernel, by decide +kernel⟩, List.mem_of_getElem? (i := 20) (by decide +kernel), List.mem_of_getElem? (i := 523) (by decide +kernel), List.mem_of_getElem? (i := 524) (by decide +kernel)⟩
theorem lw_p15 : lw_okq (⟨"TextKeeper", "isSound", "(LTextKeeper$Document;I)Z"⟩, 9) := ⟨⟨by decide +kernel, by decide +kernel⟩, List.mem_of_getElem? (i := 20) (by decide +kernel), List.mem_of_getElem? (i := 553) (by decide +kernel), List.mem_of_getElem? (i := 554) (by decide +kernel)⟩
def lw_privs_1 : List (MethodName × Nat) := [(⟨"TextKeeper", "needPower", "()V"⟩, 9), (⟨"java/lang/Throwable", "fillInStackTrace", "(I)Ljava/lang/Throwable;"⟩, 6), (⟨"TextKeeper", "spendWrites", "(I)V"⟩, 9), (⟨"TextKeeper", "documentAt", "(I)LTextKeeper$Document;"⟩, 9), (⟨"TextKeeper$Maker", "makeNext", "(LTextKeeper$Document;I)Z"⟩, 4), (⟨"TextKeeper$Maker", "obeyCommand", "()Z"⟩, 4), (⟨"TextKeeper$Maker", "readNumber", "()I"⟩, 4), (⟨"TextKeeper$Maker", "insert", "(I)Z"⟩, 4), (⟨"TextKeeper$Maker", "copy", "(I)Z"⟩, 4), (⟨"TextKeeper$PieceWriter", "writeDifferences", "(LTextKeeper$Text;LTextKeeper$Text;)V"⟩, 2), (⟨"TextKeeper$PieceWriter", "writeInsert", "(LTextKeeper$Text;II)V"⟩, 2), (⟨"TextKeeper$PieceWriter", "writeNumber", "(I)V"⟩, 2), (⟨"TextKeeper$PieceWriter", "writeByte", "(I)V"⟩, 2), (⟨"TextKeeper", "countFree", "()I"⟩, 9), (⟨"TextKeeper", "keptRevision", "(II)LTextKeeper$Revision;"⟩, 9), (⟨"TextKeeper", "isSound", "(LTextKeeper$Document;I)Z"⟩, 9)]
theorem lw_r1 : ∀ q ∈ lw_privs_1, lw_okq q := List.forall_mem_cons.mpr ⟨lw_p0, List.forall_mem_cons.mpr ⟨lw_p1, List.forall_mem_cons.mpr ⟨lw_p2, List.forall_mem_cons.mpr ⟨lw_p3, List.forall_mem_cons.mpr ⟨lw_p4, List.forall_mem_cons.mpr ⟨lw_p5, List.forall_mem_cons.mpr ⟨lw_p6, List.forall_mem_cons.mpr ⟨lw_p7, List.forall_mem_cons.mpr ⟨lw_p8, List.forall_mem_cons.mpr ⟨lw_p9, List.forall_mem_cons.mpr ⟨lw_p10, List.forall_mem_cons.mpr ⟨lw_p11, List.forall_mem_cons.mpr ⟨lw_p12, List.forall_mem_cons.mpr ⟨lw_p13, List.forall_mem_cons.mpr ⟨lw_p14, List.forall_mem_cons.mpr ⟨lw_p15, fun _ h => absurd h List.not_mem_nil⟩⟩⟩⟩⟩⟩⟩⟩⟩⟩⟩⟩⟩⟩⟩⟩
theorem lw_p16 : lw_okq (⟨"TextKeeperModel", "runs", "(I)Z"⟩, 27) := ⟨⟨by decide +kernel, by decide +kernel⟩, List.mem_of_getElem? (i := 587) (by decide +kernel), List.mem_of_getElem? (i := 686) (by decide +kernel), List.mem_of_getElem? (i := 687) (by decide +kernel)⟩
theorem lw_p17 : lw_okq (⟨"TextKeeperModel", "writes", "(I)Z"⟩, 27) := ⟨⟨by decide +kernel, by decide +kernel⟩, List.mem_of_getElem? (i := 587) (by decide +kernel), List.mem_of_getElem? (i := 698) (by decide +kernel), List.mem_of_getElem? (i := 699) (by decide +kernel)⟩
theorem lw_p18 : lw_okq (⟨"TextKeeperModel", "isDocument", "(I)Z"⟩, 27) := ⟨⟨by decide +kernel, by decide +kernel⟩, List.mem_of_getElem? (i := 587) (by decide +kernel), List.mem_of_getElem? (i := 706) (by decide +kernel), List.mem_of_getElem? (i := 707) (by decide +kernel)⟩
theorem lw_p19 : lw_okq (⟨"TextKeeperModel", "again", "(II)Z"⟩, 27) := ⟨⟨by decide +kernel, by decide +kernel⟩, List.mem_of_getElem? (i := 587) (by decide +kernel), List.mem_of_getElem? (i := 710) (by decide +kernel), List.mem_of_getElem? (i := 711) (by decide +kernel)⟩
theorem lw_p20 : lw_okq (⟨"TextKeeperModel", "makes", "(I)Z"⟩, 27) := ⟨⟨by decide +kernel, by decide +kernel⟩, List.mem_of_getElem? (i := 587) (by decide +kernel), List.mem_of_getElem? (i := 714) (by decide +kernel), List.mem_of_getElem? (i := 715) (by decide +kernel)⟩
theorem lw_p21 : lw_okq (⟨"TextKeeperModel", "begins", "(I)I"⟩, 27) := ⟨⟨by decide +kernel, by decide +kernel⟩, List.mem_of_getElem? (i := 587) (by decide +kernel), List.mem_of_getElem? (i := 718) (by decide +kernel), List.mem_of_getElem? (i := 719) (by decide +kernel)⟩
theorem lw_p22 : lw_okq (⟨"TextKeeperModel", "command", "()Z"⟩, 27) := ⟨⟨by decide +kernel, by decide +kernel⟩, List.mem_of_getElem? (i := 587) (by decide +kernel), List.mem_of_getElem? (i := 722) (by decide +kernel), List.mem_of_getElem? (i := 723) (by decide +kernel)⟩
theorem lw_p23 : lw_okq (⟨"TextKeeperModel", "number", "()Z"⟩, 27) := ⟨⟨by decide +kernel, by decide +kernel⟩, List.mem_of_getElem? (i := 587) (by decide +kernel), List.mem_of_getElem? (i := 726) (by decide +kernel), List.mem_of_getElem? (i := 727) (by decide +kernel)⟩
theorem lw_p24 : lw_okq (⟨"TextKeeperModel", "pieces", "()V"⟩, 27) := ⟨⟨by decide +kernel, by decide +kernel⟩, List.mem_of_getElem? (i := 587) (by decide +kernel), List.mem_of_getElem? (i := 730) (by decide +kernel), List.mem_of_getElem? (i := 731) (by decide +kernel)⟩
theorem lw_p25 : lw_okq (⟨"TextKeeperModel", "run", "(II)I"⟩, 27) := ⟨⟨by decide +kernel, by decide +kernel⟩, List.mem_of_getElem? (i := 587) (by decide +kernel), List.mem_of_getElem? (i := 734) (by decide +kernel), List.mem_of_getElem? (i := 735) (by decide +kernel)⟩
theorem lw_p26 : lw_okq (⟨"TextKeeperModel", "inserts", "(II)V"⟩, 27) := ⟨⟨by decide +kernel, by decide +kernel⟩, List.mem_of_getElem? (i := 587) (by decide +kernel), List.mem_of_getElem? (i := 738) (by decide +kernel), List.mem_of_getElem? (i := 739) (by decide +kernel)⟩
theorem lw_p27 : lw_okq (⟨"TextKeeperModel", "putNumber", "(I)V"⟩, 27) := ⟨⟨by decide +kernel, by decide +kernel⟩, List.mem_of_getElem? (i := 587) (by decide +kernel), List.mem_of_getElem? (i := 742) (by decide +kernel), List.mem_of_getElem? (i := 743) (by decide +kernel)⟩
theorem lw_p28 : lw_okq (⟨"TextKeeperModel", "put", "(I)V"⟩, 27) := ⟨⟨by decide +kernel, by decide +kernel⟩, List.mem_of_getElem? (i := 587) (by decide +kernel), List.mem_of_getElem? (i := 746) (by decide +kernel), List.mem_of_getElem? (i := 747) (by decide +kernel)⟩
theorem lw_p29 : lw_okq (⟨"TextKeeperModel", "free", "()I"⟩, 27) := ⟨⟨by decide +kernel, by decide +kernel⟩, List.mem_of_getElem? (i := 587) (by decide +kernel), List.mem_of_getElem? (i := 753) (by decide +kernel), List.mem_of_getElem? (i := 754) (by decide +kernel)⟩
theorem lw_p30 : lw_okq (⟨"TextKeeperModel", "sum", "([BI)I"⟩, 27) := ⟨⟨by decide +kernel, by decide +kernel⟩, List.mem_of_getElem? (i := 587) (by decide +kernel), List.mem_of_getElem? (i := 757) (by decide +kernel), List.mem_of_getElem? (i := 758) (by decide +kernel)⟩
theorem lw_p31 : lw_okq (⟨"TextKeeperModel", "isAsked", "(II)Z"⟩, 27) := ⟨⟨by decide +kernel, by decide +kernel⟩, List.mem_of_getElem? (i := 587) (by decide +kernel), List.mem_of_getElem? (i := 765) (by decide +kernel), List.mem_of_getElem? (i := 766) (by decide +kernel)⟩
def lw_privs_2 : List (MethodName × Nat) := [(⟨"TextKeeperModel", "runs", "(I)Z"⟩, 27), (⟨"TextKeeperModel", "writes", "(I)Z"⟩, 27), (⟨"TextKeeperModel", "isDocument", "(I)Z"⟩, 27), (⟨"TextKeeperModel", "again", "(II)Z"⟩, 27), (⟨"TextKeeperModel", "makes", "(I)Z"⟩, 27), (⟨"TextKeeperModel", "begins", "(I)I"⟩, 27), (⟨"TextKeeperModel", "command", "()Z"⟩, 27), (⟨"TextKeeperModel", "number", "()Z"⟩, 27), (⟨"TextKeeperModel", "pieces", "()V"⟩, 27), (⟨"TextKeeperModel", "run", "(II)I"⟩, 27), (⟨"TextKeeperModel", "inserts", "(II)V"⟩, 27), (⟨"TextKeeperModel", "putNumber", "(I)V"⟩, 27), (⟨"TextKeeperModel", "put", "(I)V"⟩, 27), (⟨"TextKeeperModel", "free", "()I"⟩, 27), (⟨"TextKeeperModel", "sum", "([BI)I"⟩, 27), (⟨"TextKeeperModel", "isAsked", "(II)Z"⟩, 27)]
theorem lw_r2 : ∀ q ∈ lw_privs_2, lw_okq q := List.forall_mem_cons.mpr ⟨lw_p16, List.forall_mem_cons.mpr ⟨lw_p17, List.forall_mem_cons.mpr ⟨lw_p18, List.forall_mem_cons.mpr ⟨lw_p19, List.forall_mem_cons.mpr ⟨lw_p20, List.forall_mem_cons.mpr ⟨lw_p21, List.forall_mem_cons.mpr ⟨lw_p22, List.forall_mem_cons.mpr ⟨lw_p23, List.forall_mem_cons.mpr ⟨lw_p24, List.forall_mem_cons.mpr ⟨lw_p25, List.forall_mem_cons.mpr ⟨lw_p26, List.forall_mem_cons.mpr ⟨lw_p27, List.forall_mem_cons.mpr ⟨lw_p28, List.forall_mem_cons.mpr ⟨lw_p29, List.forall_mem_cons.mpr ⟨lw_p30, List.forall_mem_cons.mpr ⟨lw_p31, fun _ h => absurd h List.not_mem_nil⟩⟩⟩⟩⟩⟩⟩⟩⟩⟩⟩⟩⟩⟩⟩⟩
theorem lw_p32 : lw_okq (⟨"TextKeeperModel", "cleans", "(I)V"⟩, 27) := ⟨⟨by decide +kernel, by decide +kernel⟩, List.mem_of_getElem? (i := 587) (by decide +kernel), List.mem_of_getElem? (i := 781) (by decide +kernel), List.mem_of_getElem? (i := 782) (by decide +kernel)⟩
theorem lw_p33 : lw_okq (⟨"TextKeeperModel", "drop", "(I)V"⟩, 27) := ⟨⟨by decide +kernel, by decide +kernel⟩, List.mem_of_getElem? (i := 587) (by decide +kernel), List.mem_of_getElem? (i := 788) (by decide +kernel), List.mem_of_getElem? (i := 789) (by decide +kernel)⟩
theorem lw_p34 : lw_okq (⟨"TextKeeperModel", "kept", "(II)I"⟩, 27) := ⟨⟨by decide +kernel, by decide +kernel⟩, List.mem_of_getElem? (i := 587) (by decide +kernel), List.mem_of_getElem? (i := 804) (by decide +kernel), List.mem_of_getElem? (i := 805) (by decide +kernel)⟩
def lw_privs_3 : List (MethodName × Nat) := [(⟨"TextKeeperModel", "cleans", "(I)V"⟩, 27), (⟨"TextKeeperModel", "drop", "(I)V"⟩, 27), (⟨"TextKeeperModel", "kept", "(II)I"⟩, 27)]
theorem lw_r3 : ∀ q ∈ lw_privs_3, lw_okq q := List.forall_mem_cons.mpr ⟨lw_p32, List.forall_mem_cons.mpr ⟨lw_p33, List.forall_mem_cons.mpr ⟨lw_p34, fun _ h => absurd h List.not_mem_nil⟩⟩⟩
def lw_privs : List (MethodName × Nat) := lw_privs_1 ++ (lw_privs_2 ++ (lw_privs_3))
def lw_tbl : List Cond := k2_sels lw_privs ++ tables_1
theorem lw_privs_ok : ∀ q ∈ lw_privs, lw_okq q := by
  show ∀ q ∈ lw_privs_1 ++ (lw_privs_2 ++ (lw_privs_3)), lw_okq q
  exact List.forall_mem_append.mpr ⟨lw_r1, List.forall_mem_append.mpr ⟨lw_r2, lw_r3⟩⟩
/-! names: classes, fields in the order of the slots, methods; by program out of the listing -/
def R_K : String := "TextKeeper"
def F_K : u_T := fun k => match k with
  | 0 => ("TextKeeper", "documents", "[LTextKeeper$Document;", true)
  | 1 => ("TextKeeper", "buffer", "LTextKeeper$Text;", true)
  | 2 => ("TextKeeper", "fetched", "LTextKeeper$Text;", true)
  | 3 => ("TextKeeper", "compared", "LTextKeeper$Text;", true)
  | 4 => ("TextKeeper", "maker", "LTextKeeper$Maker;", true)
  | 5 => ("TextKeeper", "writer", "LTextKeeper$PieceWriter;", true)
  | 6 => ("TextKeeper", "power", "LTextKeeper$Power;", true)
  | 7 => ("TextKeeper", "madeDocuments", "I", false)
  | _ => ("TextKeeper", "fetchedSteps", "I", false)
def ft_K : Nat → FieldType := fun k => match k with
  | 0 => .array (.object "TextKeeper$Document")
  | 1 => .object "TextKeeper$Text"
  | 2 => .object "TextKeeper$Text"
  | 3 => .object "TextKeeper$Text"
  | 4 => .object "TextKeeper$Maker"
  | 5 => .object "TextKeeper$PieceWriter"
  | 6 => .object "TextKeeper$Power"
  | 7 => .int
  | _ => .int
def R_T : String := "TextKeeper$Text"
def F_T : u_T := fun k => match k with
  | 0 => ("TextKeeper$Text", "bytes", "[B", true)
  | _ => ("TextKeeper$Text", "length", "I", false)
def ft_T : Nat → FieldType := fun k => match k with
  | 0 => .array .byte
  | _ => .int
def R_M : String := "TextKeeper$Maker"
def F_M : u_T := fun k => match k with
  | 0 => ("TextKeeper$Maker", "base", "LTextKeeper$Text;", false)
  | 1 => ("TextKeeper$Maker", "text", "LTextKeeper$Text;", false)
  | 2 => ("TextKeeper$Maker", "piece", "[B", false)
  | _ => ("TextKeeper$Maker", "at", "I", false)
def ft_M : Nat → FieldType := fun k => match k with
  | 0 => .object "TextKeeper$Text"
  | 1 => .object "TextKeeper$Text"
  | 2 => .array .byte
  | _ => .int
def R_W : String := "TextKeeper$PieceWriter"
def F_W : u_T := fun k => match k with
  | 0 => ("TextKeeper$PieceWriter", "row", "[B", true)
  | _ => ("TextKeeper$PieceWriter", "length", "I", false)
def ft_W : Nat → FieldType := fun k => match k with
  | 0 => .array .byte
  | _ => .int
def R_P : String := "TextKeeper$Power"
def F_P : u_T := fun k => match k with
  | 0 => ("TextKeeper$Power", "down", "Z", false)
  | 1 => ("TextKeeper$Power", "going", "Z", false)
  | _ => ("TextKeeper$Power", "writesLeft", "I", false)
def ft_P : Nat → FieldType := fun k => match k with
  | 0 => .boolean
  | 1 => .boolean
  | _ => .int
def R_D : String := "TextKeeper$Document"
def F_D : u_T := fun k => match k with
  | 0 => ("TextKeeper$Document", "revisions", "[LTextKeeper$Revision;", true)
  | 1 => ("TextKeeper$Document", "first", "I", false)
  | _ => ("TextKeeper$Document", "count", "I", false)
def ft_D : Nat → FieldType := fun k => match k with
  | 0 => .array (.object "TextKeeper$Revision")
  | 1 => .int
  | _ => .int
def R_V : String := "TextKeeper$Revision"
def F_V : u_T := fun k => match k with
  | 0 => ("TextKeeper$Revision", "piece", "[B", true)
  | 1 => ("TextKeeper$Revision", "author", "I", true)
  | _ => ("TextKeeper$Revision", "sum", "I", true)
def ft_V : Nat → FieldType := fun k => match k with
  | 0 => .array .byte
  | 1 => .int
  | _ => .int
def R_O : String := "TextKeeperModel"
def F_O : u_T := fun k => match k with
  | 0 => ("TextKeeperModel", "thrown", "I", false)
  | 1 => ("TextKeeperModel", "down", "Z", false)
  | 2 => ("TextKeeperModel", "lasts", "I", false)
  | 3 => ("TextKeeperModel", "buffer", "[B", true)
  | 4 => ("TextKeeperModel", "size", "I", false)
  | 5 => ("TextKeeperModel", "documents", "I", false)
  | 6 => ("TextKeeperModel", "gone", "[Z", true)
  | 7 => ("TextKeeperModel", "first", "[I", true)
  | 8 => ("TextKeeperModel", "many", "[I", true)
  | 9 => ("TextKeeperModel", "lengths", "[S", true)
  | 10 => ("TextKeeperModel", "authors", "[I", true)
  | 11 => ("TextKeeperModel", "sums", "[I", true)
  | 12 => ("TextKeeperModel", "row", "[B", true)
  | 13 => ("TextKeeperModel", "made", "[B", false)
  | 14 => ("TextKeeperModel", "madeSize", "I", false)
  | 15 => ("TextKeeperModel", "base", "[B", false)
  | 16 => ("TextKeeperModel", "baseSize", "I", false)
  | 17 => ("TextKeeperModel", "text", "[B", true)
  | 18 => ("TextKeeperModel", "textSize", "I", false)
  | 19 => ("TextKeeperModel", "textSteps", "I", false)
  | 20 => ("TextKeeperModel", "other", "[B", true)
  | 21 => ("TextKeeperModel", "otherSize", "I", false)
  | 22 => ("TextKeeperModel", "piece", "[B", true)
  | 23 => ("TextKeeperModel", "pieceSize", "I", false)
  | 24 => ("TextKeeperModel", "at", "I", false)
  | 25 => ("TextKeeperModel", "end", "I", false)
  | _ => ("TextKeeperModel", "value", "I", false)
def ft_O : Nat → FieldType := fun k => match k with
  | 0 => .int
  | 1 => .boolean
  | 2 => .int
  | 3 => .array .byte
  | 4 => .int
  | 5 => .int
  | 6 => .array .boolean
  | 7 => .array .int
  | 8 => .array .int
  | 9 => .array .short
  | 10 => .array .int
  | 11 => .array .int
  | 12 => .array .byte
  | 13 => .array .byte
  | 14 => .int
  | 15 => .array .byte
  | 16 => .int
  | 17 => .array .byte
  | 18 => .int
  | 19 => .int
  | 20 => .array .byte
  | 21 => .int
  | 22 => .array .byte
  | 23 => .int
  | 24 => .int
  | 25 => .int
  | _ => .int
def R_L : String := "TextKeeperLaw"
def R_A : String := "java/util/Arrays"
def R_I : String := "java/lang/Integer"
abbrev vwCl : List vw_C := [(R_K, F_K, 9), (R_T, F_T, 2), (R_M, F_M, 4), (R_W, F_W, 2), (R_P, F_P, 3), (R_D, F_D, 3), (R_V, F_V, 3), (R_O, F_O, 27)]
def y_K_init : MethodName := ⟨R_K, "<init>", "()V"⟩
def y_K_about : MethodName := ⟨R_K, "about", "(II)I"⟩
def y_K_baseOf : MethodName := ⟨R_K, "baseOf", "(I)I"⟩
def y_K_blocksFor : MethodName := ⟨R_K, "blocksFor", "(I)I"⟩
def y_K_commit : MethodName := ⟨R_K, "commit", "(II)I"⟩
def y_K_common : MethodName := ⟨R_K, "common", "(IIII)I"⟩
def y_K_countFree : MethodName := ⟨R_K, "countFree", "()I"⟩
def y_K_cutAfter : MethodName := ⟨R_K, "cutAfter", "(I)Z"⟩
def y_K_damage : MethodName := ⟨R_K, "damage", "(IIII)Z"⟩
def y_K_documentAt : MethodName := ⟨R_K, "documentAt", "(I)LTextKeeper$Document;"⟩
def y_K_dropDocument : MethodName := ⟨R_K, "dropDocument", "(I)Z"⟩
def y_K_end : MethodName := ⟨R_K, "end", "(I)Z"⟩
def y_K_feed : MethodName := ⟨R_K, "feed", "(IIIII)Z"⟩
def y_K_fetch : MethodName := ⟨R_K, "fetch", "(II)I"⟩
def y_K_freeBlocks : MethodName := ⟨R_K, "freeBlocks", "()I"⟩
def y_K_isDown : MethodName := ⟨R_K, "isDown", "()Z"⟩
def y_K_isSound : MethodName := ⟨R_K, "isSound", "(LTextKeeper$Document;I)Z"⟩
def y_K_keptRevision : MethodName := ⟨R_K, "keptRevision", "(II)LTextKeeper$Revision;"⟩
def y_K_make : MethodName := ⟨R_K, "make", "()I"⟩
def y_K_needPower : MethodName := ⟨R_K, "needPower", "()V"⟩
def y_K_out : MethodName := ⟨R_K, "out", "(I)I"⟩
def y_K_pieceByte : MethodName := ⟨R_K, "pieceByte", "(III)I"⟩
def y_K_revision : MethodName := ⟨R_K, "revision", "(III)I"⟩
def y_K_spendWrites : MethodName := ⟨R_K, "spendWrites", "(I)V"⟩
def y_K_start : MethodName := ⟨R_K, "start", "()Z"⟩
def y_K_steps : MethodName := ⟨R_K, "steps", "()I"⟩
def y_K_trim : MethodName := ⟨R_K, "trim", "(II)Z"⟩
def y_K_verify : MethodName := ⟨R_K, "verify", "(I)I"⟩
def y_D_init : MethodName := ⟨R_D, "<init>", "()V"⟩
def y_D_add : MethodName := ⟨R_D, "add", "(LTextKeeper$Revision;)V"⟩
def y_D_canBeAsked : MethodName := ⟨R_D, "canBeAsked", "(I)Z"⟩
def y_D_countBlocks : MethodName := ⟨R_D, "countBlocks", "()I"⟩
def y_D_cutBefore : MethodName := ⟨R_D, "cutBefore", "(I)V"⟩
def y_D_isFull : MethodName := ⟨R_D, "isFull", "()Z"⟩
def y_D_keptAt : MethodName := ⟨R_D, "keptAt", "(I)LTextKeeper$Revision;"⟩
def y_D_newest : MethodName := ⟨R_D, "newest", "()I"⟩
def y_M_init : MethodName := ⟨R_M, "<init>", "()V"⟩
def y_M_copy : MethodName := ⟨R_M, "copy", "(I)Z"⟩
def y_M_insert : MethodName := ⟨R_M, "insert", "(I)Z"⟩
def y_M_makeAgain : MethodName := ⟨R_M, "makeAgain", "(LTextKeeper$Document;I)LTextKeeper$Text;"⟩
def y_M_makeBase : MethodName := ⟨R_M, "makeBase", "(LTextKeeper$Document;I)LTextKeeper$Text;"⟩
def y_M_makeNext : MethodName := ⟨R_M, "makeNext", "(LTextKeeper$Document;I)Z"⟩
def y_M_obeyCommand : MethodName := ⟨R_M, "obeyCommand", "()Z"⟩
def y_M_readNumber : MethodName := ⟨R_M, "readNumber", "()I"⟩
def y_W_init : MethodName := ⟨R_W, "<init>", "()V"⟩
def y_W_digitsOf : MethodName := ⟨R_W, "digitsOf", "(I)I"⟩
def y_W_pieceOf : MethodName := ⟨R_W, "pieceOf", "(LTextKeeper$Text;LTextKeeper$Text;)[B"⟩
def y_W_placeOfLongest : MethodName := ⟨R_W, "placeOfLongest", "(LTextKeeper$Text;ILTextKeeper$Text;)I"⟩
def y_W_writeByte : MethodName := ⟨R_W, "writeByte", "(I)V"⟩
def y_W_writeDifferences : MethodName := ⟨R_W, "writeDifferences", "(LTextKeeper$Text;LTextKeeper$Text;)V"⟩
def y_W_writeInsert : MethodName := ⟨R_W, "writeInsert", "(LTextKeeper$Text;II)V"⟩
def y_W_writeNumber : MethodName := ⟨R_W, "writeNumber", "(I)V"⟩
def y_P_init : MethodName := ⟨R_P, "<init>", "()V"⟩
def y_P_comeBack : MethodName := ⟨R_P, "comeBack", "()V"⟩
def y_P_goAfter : MethodName := ⟨R_P, "goAfter", "(I)V"⟩
def y_P_lastsFor : MethodName := ⟨R_P, "lastsFor", "(I)Z"⟩
def y_V_init : MethodName := ⟨R_V, "<init>", "([BII)V"⟩
def y_V_hasByte : MethodName := ⟨R_V, "hasByte", "(I)Z"⟩
def y_T_init : MethodName := ⟨R_T, "<init>", "()V"⟩
def y_T_addByte : MethodName := ⟨R_T, "addByte", "(I)V"⟩
def y_T_addInt : MethodName := ⟨R_T, "addInt", "(I)V"⟩
def y_T_become : MethodName := ⟨R_T, "become", "(LTextKeeper$Text;)V"⟩
def y_T_byteAt : MethodName := ⟨R_T, "byteAt", "(I)I"⟩
def y_T_hasRoom : MethodName := ⟨R_T, "hasRoom", "(I)Z"⟩
def y_T_runBackWith : MethodName := ⟨R_T, "runBackWith", "(LTextKeeper$Text;I)I"⟩
def y_T_runWith : MethodName := ⟨R_T, "runWith", "(ILTextKeeper$Text;I)I"⟩
def y_T_shorten : MethodName := ⟨R_T, "shorten", "(I)Z"⟩
def y_T_sum : MethodName := ⟨R_T, "sum", "()I"⟩
def y_L_about : MethodName := ⟨R_L, "about", "(LTextKeeper;II[J)I"⟩
def y_L_commit : MethodName := ⟨R_L, "commit", "(LTextKeeper;II[J)I"⟩
def y_L_common : MethodName := ⟨R_L, "common", "(LTextKeeper;IIII[J)I"⟩
def y_L_cutAfter : MethodName := ⟨R_L, "cutAfter", "(LTextKeeper;I[J)I"⟩
def y_L_damage : MethodName := ⟨R_L, "damage", "(LTextKeeper;IIII[J)I"⟩
def y_L_dropDocument : MethodName := ⟨R_L, "dropDocument", "(LTextKeeper;I[J)I"⟩
def y_L_end : MethodName := ⟨R_L, "end", "(LTextKeeper;I[J)I"⟩
def y_L_feed : MethodName := ⟨R_L, "feed", "(LTextKeeper;IIIII[J)I"⟩
def y_L_fetch : MethodName := ⟨R_L, "fetch", "(LTextKeeper;II[J)I"⟩
def y_L_freeBlocks : MethodName := ⟨R_L, "freeBlocks", "(LTextKeeper;[J)I"⟩
def y_L_make : MethodName := ⟨R_L, "make", "(LTextKeeper;[J)I"⟩
def y_L_out : MethodName := ⟨R_L, "out", "(LTextKeeper;I[J)I"⟩
def y_L_pieceByte : MethodName := ⟨R_L, "pieceByte", "(LTextKeeper;III[J)I"⟩
def y_L_revision : MethodName := ⟨R_L, "revision", "(LTextKeeper;III[J)I"⟩
def y_L_steps : MethodName := ⟨R_L, "steps", "(LTextKeeper;[J)I"⟩
def y_L_trim : MethodName := ⟨R_L, "trim", "(LTextKeeper;II[J)I"⟩
def y_L_verify : MethodName := ⟨R_L, "verify", "(LTextKeeper;I[J)I"⟩
def y_O_init : MethodName := ⟨R_O, "<init>", "()V"⟩
def y_O_about : MethodName := ⟨R_O, "about", "(II)I"⟩
def y_O_again : MethodName := ⟨R_O, "again", "(II)Z"⟩
def y_O_begins : MethodName := ⟨R_O, "begins", "(I)I"⟩
def y_O_blocks : MethodName := ⟨R_O, "blocks", "(I)I"⟩
def y_O_cleans : MethodName := ⟨R_O, "cleans", "(I)V"⟩
def y_O_command : MethodName := ⟨R_O, "command", "()Z"⟩
def y_O_commit : MethodName := ⟨R_O, "commit", "(II)I"⟩
def y_O_common : MethodName := ⟨R_O, "common", "(IIII)I"⟩
def y_O_cutAfter : MethodName := ⟨R_O, "cutAfter", "(I)Z"⟩
def y_O_damage : MethodName := ⟨R_O, "damage", "(IIII)Z"⟩
def y_O_drop : MethodName := ⟨R_O, "drop", "(I)V"⟩
def y_O_dropDocument : MethodName := ⟨R_O, "dropDocument", "(I)Z"⟩
def y_O_end : MethodName := ⟨R_O, "end", "(I)Z"⟩
def y_O_feed : MethodName := ⟨R_O, "feed", "(IIIII)Z"⟩
def y_O_fetch : MethodName := ⟨R_O, "fetch", "(II)I"⟩
def y_O_free : MethodName := ⟨R_O, "free", "()I"⟩
def y_O_freeBlocks : MethodName := ⟨R_O, "freeBlocks", "()I"⟩
def y_O_inserts : MethodName := ⟨R_O, "inserts", "(II)V"⟩
def y_O_isAsked : MethodName := ⟨R_O, "isAsked", "(II)Z"⟩
def y_O_isDocument : MethodName := ⟨R_O, "isDocument", "(I)Z"⟩
def y_O_isDown : MethodName := ⟨R_O, "isDown", "()Z"⟩
def y_O_isUnder : MethodName := ⟨R_O, "isUnder", "(II)Z"⟩
def y_O_kept : MethodName := ⟨R_O, "kept", "(II)I"⟩
def y_O_make : MethodName := ⟨R_O, "make", "()I"⟩
def y_O_makes : MethodName := ⟨R_O, "makes", "(I)Z"⟩
def y_O_number : MethodName := ⟨R_O, "number", "()Z"⟩
def y_O_out : MethodName := ⟨R_O, "out", "(I)I"⟩
def y_O_pieceByte : MethodName := ⟨R_O, "pieceByte", "(III)I"⟩
def y_O_pieces : MethodName := ⟨R_O, "pieces", "()V"⟩
def y_O_put : MethodName := ⟨R_O, "put", "(I)V"⟩
def y_O_putNumber : MethodName := ⟨R_O, "putNumber", "(I)V"⟩
def y_O_revision : MethodName := ⟨R_O, "revision", "(III)I"⟩
def y_O_run : MethodName := ⟨R_O, "run", "(II)I"⟩
def y_O_runs : MethodName := ⟨R_O, "runs", "(I)Z"⟩
def y_O_start : MethodName := ⟨R_O, "start", "()Z"⟩
def y_O_steps : MethodName := ⟨R_O, "steps", "()I"⟩
def y_O_sum : MethodName := ⟨R_O, "sum", "([BI)I"⟩
def y_O_thrown : MethodName := ⟨R_O, "thrown", "()I"⟩
def y_O_trim : MethodName := ⟨R_O, "trim", "(II)Z"⟩
def y_O_verify : MethodName := ⟨R_O, "verify", "(I)I"⟩
def y_O_writes : MethodName := ⟨R_O, "writes", "(I)Z"⟩
def y_I_bitCount : MethodName := ⟨R_I, "bitCount", "(I)I"⟩
def y_A_copyOf : MethodName := ⟨R_A, "copyOf", "([BI)[B"⟩
end
section
theorem d_K_init_0 : decode prog_1_method_1_code 0 = .ok (.aload_n 0, 1) := by decide +kernel
theorem d_K_init_1 : decode prog_1_method_1_code 1 = .ok (.invokespecial 1, 3) := by decide +kernel
theorem d_K_init_4 : decode prog_1_method_1_code 4 = .ok (.aload_n 0, 1) := by decide +kernel
theorem d_K_init_5 : decode prog_1_method_1_code 5 = .ok (.bipush 8, 2) := by decide +kernel
theorem d_K_init_7 : decode prog_1_method_1_code 7 = .ok (.anewarray 9, 3) := by decide +kernel
theorem d_K_init_10 : decode prog_1_method_1_code 10 = .ok (.putfield 11, 3) := by decide +kernel
theorem d_K_init_13 : decode prog_1_method_1_code 13 = .ok (.aload_n 0, 1) := by decide +kernel
theorem d_K_init_14 : decode prog_1_method_1_code 14 = .ok (.new 15, 3) := by decide +kernel
theorem d_K_init_17 : decode prog_1_method_1_code 17 = .ok (.dup, 1) := by decide +kernel
theorem d_K_init_18 : decode prog_1_method_1_code 18 = .ok (.invokespecial 17, 3) := by decide +kernel
theorem d_K_init_21 : decode prog_1_method_1_code 21 = .ok (.putfield 18, 3) := by decide +kernel
theorem d_K_init_24 : decode prog_1_method_1_code 24 = .ok (.aload_n 0, 1) := by decide +kernel
theorem d_K_init_25 : decode prog_1_method_1_code 25 = .ok (.new 15, 3) := by decide +kernel
theorem d_K_init_28 : decode prog_1_method_1_code 28 = .ok (.dup, 1) := by decide +kernel
theorem d_K_init_29 : decode prog_1_method_1_code 29 = .ok (.invokespecial 17, 3) := by decide +kernel
theorem d_K_init_32 : decode prog_1_method_1_code 32 = .ok (.putfield 22, 3) := by decide +kernel
theorem d_K_init_35 : decode prog_1_method_1_code 35 = .ok (.aload_n 0, 1) := by decide +kernel
theorem d_K_init_36 : decode prog_1_method_1_code 36 = .ok (.new 15, 3) := by decide +kernel
theorem d_K_init_39 : decode prog_1_method_1_code 39 = .ok (.dup, 1) := by decide +kernel
theorem d_K_init_40 : decode prog_1_method_1_code 40 = .ok (.invokespecial 17, 3) := by decide +kernel
theorem d_K_init_43 : decode prog_1_method_1_code 43 = .ok (.putfield 25, 3) := by decide +kernel
theorem d_K_init_46 : decode prog_1_method_1_code 46 = .ok (.aload_n 0, 1) := by decide +kernel
theorem d_K_init_47 : decode prog_1_method_1_code 47 = .ok (.new 28, 3) := by decide +kernel
theorem d_K_init_50 : decode prog_1_method_1_code 50 = .ok (.dup, 1) := by decide +kernel
theorem d_K_init_51 : decode prog_1_method_1_code 51 = .ok (.invokespecial 30, 3) := by decide +kernel
theorem d_K_init_54 : decode prog_1_method_1_code 54 = .ok (.putfield 31, 3) := by decide +kernel
theorem d_K_init_57 : decode prog_1_method_1_code 57 = .ok (.aload_n 0, 1) := by decide +kernel
theorem d_K_init_58 : decode prog_1_method_1_code 58 = .ok (.new 35, 3) := by decide +kernel
theorem d_K_init_61 : decode prog_1_method_1_code 61 = .ok (.dup, 1) := by decide +kernel
theorem d_K_init_62 : decode prog_1_method_1_code 62 = .ok (.invokespecial 37, 3) := by decide +kernel
theorem d_K_init_65 : decode prog_1_method_1_code 65 = .ok (.putfield 38, 3) := by decide +kernel
theorem d_K_init_68 : decode prog_1_method_1_code 68 = .ok (.aload_n 0, 1) := by decide +kernel
theorem d_K_init_69 : decode prog_1_method_1_code 69 = .ok (.new 42, 3) := by decide +kernel
theorem d_K_init_72 : decode prog_1_method_1_code 72 = .ok (.dup, 1) := by decide +kernel
theorem d_K_init_73 : decode prog_1_method_1_code 73 = .ok (.invokespecial 44, 3) := by decide +kernel
theorem d_K_init_76 : decode prog_1_method_1_code 76 = .ok (.putfield 45, 3) := by decide +kernel
theorem d_K_init_79 : decode prog_1_method_1_code 79 = .ok (.aload_n 0, 1) := by decide +kernel
theorem d_K_init_80 : decode prog_1_method_1_code 80 = .ok (.iconst 0, 1) := by decide +kernel
theorem d_K_init_81 : decode prog_1_method_1_code 81 = .ok (.putfield 49, 3) := by decide +kernel
theorem d_K_init_84 : decode prog_1_method_1_code 84 = .ok (.aload_n 0, 1) := by decide +kernel
theorem d_K_init_85 : decode prog_1_method_1_code 85 = .ok (.iconst (-1), 1) := by decide +kernel
theorem d_K_init_86 : decode prog_1_method_1_code 86 = .ok (.putfield 53, 3) := by decide +kernel
theorem d_K_init_89 : decode prog_1_method_1_code 89 = .ok (.return_, 1) := by decide +kernel
theorem d_K_about_0 : decode prog_1_method_11_code 0 = .ok (.aload_n 0, 1) := by decide +kernel
theorem d_K_about_1 : decode prog_1_method_11_code 1 = .ok (.invokevirtual 56, 3) := by decide +kernel
theorem d_K_about_4 : decode prog_1_method_11_code 4 = .ok (.aload_n 0, 1) := by decide +kernel
theorem d_K_about_5 : decode prog_1_method_11_code 5 = .ok (.iload_n 1, 1) := by decide +kernel
theorem d_K_about_6 : decode prog_1_method_11_code 6 = .ok (.invokevirtual 74, 3) := by decide +kernel
theorem d_K_about_9 : decode prog_1_method_11_code 9 = .ok (.astore_n 3, 1) := by decide +kernel
theorem d_K_about_10 : decode prog_1_method_11_code 10 = .ok (.aload_n 3, 1) := by decide +kernel
theorem d_K_about_11 : decode prog_1_method_11_code 11 = .ok (.ifnonnull 11, 3) := by decide +kernel
theorem d_K_about_14 : decode prog_1_method_11_code 14 = .ok (.new 140, 3) := by decide +kernel
theorem d_K_about_17 : decode prog_1_method_11_code 17 = .ok (.dup, 1) := by decide +kernel
theorem d_K_about_18 : decode prog_1_method_11_code 18 = .ok (.invokespecial 142, 3) := by decide +kernel
theorem d_K_about_21 : decode prog_1_method_11_code 21 = .ok (.athrow, 1) := by decide +kernel
theorem d_K_about_22 : decode prog_1_method_11_code 22 = .ok (.iload_n 2, 1) := by decide +kernel
theorem d_K_about_23 : decode prog_1_method_11_code 23 = .ok (.lookupswitch 35 #[(0, 25), (1, 30)], 25) := by decide +kernel
theorem d_K_about_48 : decode prog_1_method_11_code 48 = .ok (.aload_n 3, 1) := by decide +kernel
theorem d_K_about_49 : decode prog_1_method_11_code 49 = .ok (.getfield 143, 3) := by decide +kernel
theorem d_K_about_52 : decode prog_1_method_11_code 52 = .ok (.ireturn, 1) := by decide +kernel
theorem d_K_about_53 : decode prog_1_method_11_code 53 = .ok (.aload_n 3, 1) := by decide +kernel
theorem d_K_about_54 : decode prog_1_method_11_code 54 = .ok (.invokevirtual 113, 3) := by decide +kernel
theorem d_K_about_57 : decode prog_1_method_11_code 57 = .ok (.ireturn, 1) := by decide +kernel
theorem d_K_about_58 : decode prog_1_method_11_code 58 = .ok (.new 146, 3) := by decide +kernel
theorem d_K_about_61 : decode prog_1_method_11_code 61 = .ok (.dup, 1) := by decide +kernel
theorem d_K_about_62 : decode prog_1_method_11_code 62 = .ok (.invokespecial 148, 3) := by decide +kernel
theorem d_K_about_65 : decode prog_1_method_11_code 65 = .ok (.athrow, 1) := by decide +kernel
theorem d_K_baseOf_0 : decode prog_1_method_28_code 0 = .ok (.iload_n 0, 1) := by decide +kernel
theorem d_K_baseOf_1 : decode prog_1_method_28_code 1 = .ok (.iload_n 0, 1) := by decide +kernel
theorem d_K_baseOf_2 : decode prog_1_method_28_code 2 = .ok (.iconst 1, 1) := by decide +kernel
theorem d_K_baseOf_3 : decode prog_1_method_28_code 3 = .ok (.isub, 1) := by decide +kernel
theorem d_K_baseOf_4 : decode prog_1_method_28_code 4 = .ok (.iand, 1) := by decide +kernel
theorem d_K_baseOf_5 : decode prog_1_method_28_code 5 = .ok (.ireturn, 1) := by decide +kernel
theorem d_K_blocksFor_0 : decode prog_1_method_27_code 0 = .ok (.iload_n 0, 1) := by decide +kernel
theorem d_K_blocksFor_1 : decode prog_1_method_27_code 1 = .ok (.bipush 32, 2) := by decide +kernel
theorem d_K_blocksFor_3 : decode prog_1_method_27_code 3 = .ok (.iadd, 1) := by decide +kernel
theorem d_K_blocksFor_4 : decode prog_1_method_27_code 4 = .ok (.iconst 1, 1) := by decide +kernel
theorem d_K_blocksFor_5 : decode prog_1_method_27_code 5 = .ok (.isub, 1) := by decide +kernel
theorem d_K_blocksFor_6 : decode prog_1_method_27_code 6 = .ok (.bipush 32, 2) := by decide +kernel
theorem d_K_blocksFor_8 : decode prog_1_method_27_code 8 = .ok (.idiv, 1) := by decide +kernel
theorem d_K_blocksFor_9 : decode prog_1_method_27_code 9 = .ok (.ireturn, 1) := by decide +kernel
theorem d_K_commit_0 : decode prog_1_method_5_code 0 = .ok (.aload_n 0, 1) := by decide +kernel
theorem d_K_commit_1 : decode prog_1_method_5_code 1 = .ok (.invokevirtual 56, 3) := by decide +kernel
theorem d_K_commit_4 : decode prog_1_method_5_code 4 = .ok (.aload_n 0, 1) := by decide +kernel
theorem d_K_commit_5 : decode prog_1_method_5_code 5 = .ok (.iload_n 1, 1) := by decide +kernel
theorem d_K_commit_6 : decode prog_1_method_5_code 6 = .ok (.invokevirtual 74, 3) := by decide +kernel
theorem d_K_commit_9 : decode prog_1_method_5_code 9 = .ok (.astore_n 3, 1) := by decide +kernel
theorem d_K_commit_10 : decode prog_1_method_5_code 10 = .ok (.aload_n 3, 1) := by decide +kernel
theorem d_K_commit_11 : decode prog_1_method_5_code 11 = .ok (.ifnull 10, 3) := by decide +kernel
theorem d_K_commit_14 : decode prog_1_method_5_code 14 = .ok (.aload_n 3, 1) := by decide +kernel
theorem d_K_commit_15 : decode prog_1_method_5_code 15 = .ok (.invokevirtual 78, 3) := by decide +kernel
theorem d_K_commit_18 : decode prog_1_method_5_code 18 = .ok (.ifCond .eq 5, 3) := by decide +kernel
theorem d_K_commit_21 : decode prog_1_method_5_code 21 = .ok (.iconst (-1), 1) := by decide +kernel
theorem d_K_commit_22 : decode prog_1_method_5_code 22 = .ok (.ireturn, 1) := by decide +kernel
theorem d_K_commit_23 : decode prog_1_method_5_code 23 = .ok (.aload_n 0, 1) := by decide +kernel
theorem d_K_commit_24 : decode prog_1_method_5_code 24 = .ok (.getfield 31, 3) := by decide +kernel
theorem d_K_commit_27 : decode prog_1_method_5_code 27 = .ok (.aload_n 3, 1) := by decide +kernel
theorem d_K_commit_28 : decode prog_1_method_5_code 28 = .ok (.aload_n 3, 1) := by decide +kernel
theorem d_K_commit_29 : decode prog_1_method_5_code 29 = .ok (.getfield 82, 3) := by decide +kernel
theorem d_K_commit_32 : decode prog_1_method_5_code 32 = .ok (.invokevirtual 85, 3) := by decide +kernel
theorem d_K_commit_35 : decode prog_1_method_5_code 35 = .ok (.astore 4, 2) := by decide +kernel
theorem d_K_commit_37 : decode prog_1_method_5_code 37 = .ok (.aload 4, 2) := by decide +kernel
theorem d_K_commit_39 : decode prog_1_method_5_code 39 = .ok (.ifnonnull 5, 3) := by decide +kernel
theorem d_K_commit_42 : decode prog_1_method_5_code 42 = .ok (.iconst (-1), 1) := by decide +kernel
theorem d_K_commit_43 : decode prog_1_method_5_code 43 = .ok (.ireturn, 1) := by decide +kernel
theorem d_K_commit_44 : decode prog_1_method_5_code 44 = .ok (.aload_n 0, 1) := by decide +kernel
theorem d_K_commit_45 : decode prog_1_method_5_code 45 = .ok (.getfield 38, 3) := by decide +kernel
theorem d_K_commit_48 : decode prog_1_method_5_code 48 = .ok (.aload_n 0, 1) := by decide +kernel
theorem d_K_commit_49 : decode prog_1_method_5_code 49 = .ok (.getfield 18, 3) := by decide +kernel
theorem d_K_commit_52 : decode prog_1_method_5_code 52 = .ok (.aload 4, 2) := by decide +kernel
theorem d_K_commit_54 : decode prog_1_method_5_code 54 = .ok (.invokevirtual 89, 3) := by decide +kernel
theorem d_K_commit_57 : decode prog_1_method_5_code 57 = .ok (.astore 5, 2) := by decide +kernel
theorem d_K_commit_59 : decode prog_1_method_5_code 59 = .ok (.aload 5, 2) := by decide +kernel
theorem d_K_commit_61 : decode prog_1_method_5_code 61 = .ok (.arraylength, 1) := by decide +kernel
theorem d_K_commit_62 : decode prog_1_method_5_code 62 = .ok (.invokestatic 93, 3) := by decide +kernel
theorem d_K_commit_65 : decode prog_1_method_5_code 65 = .ok (.istore 6, 2) := by decide +kernel
theorem d_K_commit_67 : decode prog_1_method_5_code 67 = .ok (.iload 6, 2) := by decide +kernel
theorem d_K_commit_69 : decode prog_1_method_5_code 69 = .ok (.aload_n 0, 1) := by decide +kernel
theorem d_K_commit_70 : decode prog_1_method_5_code 70 = .ok (.invokevirtual 97, 3) := by decide +kernel
theorem d_K_commit_73 : decode prog_1_method_5_code 73 = .ok (.if_icmp .le 5, 3) := by decide +kernel
theorem d_K_commit_76 : decode prog_1_method_5_code 76 = .ok (.iconst (-1), 1) := by decide +kernel
theorem d_K_commit_77 : decode prog_1_method_5_code 77 = .ok (.ireturn, 1) := by decide +kernel
theorem d_K_commit_78 : decode prog_1_method_5_code 78 = .ok (.aload_n 0, 1) := by decide +kernel
theorem d_K_commit_79 : decode prog_1_method_5_code 79 = .ok (.iload 6, 2) := by decide +kernel
theorem d_K_commit_81 : decode prog_1_method_5_code 81 = .ok (.iconst 1, 1) := by decide +kernel
theorem d_K_commit_82 : decode prog_1_method_5_code 82 = .ok (.iadd, 1) := by decide +kernel
theorem d_K_commit_83 : decode prog_1_method_5_code 83 = .ok (.invokevirtual 70, 3) := by decide +kernel
theorem d_K_commit_86 : decode prog_1_method_5_code 86 = .ok (.aload_n 3, 1) := by decide +kernel
theorem d_K_commit_87 : decode prog_1_method_5_code 87 = .ok (.new 101, 3) := by decide +kernel
theorem d_K_commit_90 : decode prog_1_method_5_code 90 = .ok (.dup, 1) := by decide +kernel
theorem d_K_commit_91 : decode prog_1_method_5_code 91 = .ok (.aload 5, 2) := by decide +kernel
theorem d_K_commit_93 : decode prog_1_method_5_code 93 = .ok (.iload_n 2, 1) := by decide +kernel
theorem d_K_commit_94 : decode prog_1_method_5_code 94 = .ok (.aload_n 0, 1) := by decide +kernel
theorem d_K_commit_95 : decode prog_1_method_5_code 95 = .ok (.getfield 18, 3) := by decide +kernel
theorem d_K_commit_98 : decode prog_1_method_5_code 98 = .ok (.invokevirtual 103, 3) := by decide +kernel
theorem d_K_commit_101 : decode prog_1_method_5_code 101 = .ok (.invokespecial 106, 3) := by decide +kernel
theorem d_K_commit_104 : decode prog_1_method_5_code 104 = .ok (.invokevirtual 109, 3) := by decide +kernel
theorem d_K_commit_107 : decode prog_1_method_5_code 107 = .ok (.aload_n 0, 1) := by decide +kernel
theorem d_K_commit_108 : decode prog_1_method_5_code 108 = .ok (.getfield 18, 3) := by decide +kernel
theorem d_K_commit_111 : decode prog_1_method_5_code 111 = .ok (.iconst 0, 1) := by decide +kernel
theorem d_K_commit_112 : decode prog_1_method_5_code 112 = .ok (.invokevirtual 67, 3) := by decide +kernel
theorem d_K_commit_115 : decode prog_1_method_5_code 115 = .ok (.pop, 1) := by decide +kernel
theorem d_K_commit_116 : decode prog_1_method_5_code 116 = .ok (.aload_n 3, 1) := by decide +kernel
theorem d_K_commit_117 : decode prog_1_method_5_code 117 = .ok (.invokevirtual 113, 3) := by decide +kernel
theorem d_K_commit_120 : decode prog_1_method_5_code 120 = .ok (.ireturn, 1) := by decide +kernel
theorem d_K_common_0 : decode prog_1_method_16_code 0 = .ok (.aload_n 0, 1) := by decide +kernel
theorem d_K_common_1 : decode prog_1_method_16_code 1 = .ok (.invokevirtual 56, 3) := by decide +kernel
theorem d_K_common_4 : decode prog_1_method_16_code 4 = .ok (.aload_n 0, 1) := by decide +kernel
theorem d_K_common_5 : decode prog_1_method_16_code 5 = .ok (.iload_n 1, 1) := by decide +kernel
theorem d_K_common_6 : decode prog_1_method_16_code 6 = .ok (.invokevirtual 74, 3) := by decide +kernel
theorem d_K_common_9 : decode prog_1_method_16_code 9 = .ok (.astore 5, 2) := by decide +kernel
theorem d_K_common_11 : decode prog_1_method_16_code 11 = .ok (.aload 5, 2) := by decide +kernel
theorem d_K_common_13 : decode prog_1_method_16_code 13 = .ok (.ifnull 21, 3) := by decide +kernel
theorem d_K_common_16 : decode prog_1_method_16_code 16 = .ok (.aload 5, 2) := by decide +kernel
theorem d_K_common_18 : decode prog_1_method_16_code 18 = .ok (.iload_n 2, 1) := by decide +kernel
theorem d_K_common_19 : decode prog_1_method_16_code 19 = .ok (.invokevirtual 116, 3) := by decide +kernel
theorem d_K_common_22 : decode prog_1_method_16_code 22 = .ok (.ifCond .eq 12, 3) := by decide +kernel
theorem d_K_common_25 : decode prog_1_method_16_code 25 = .ok (.aload 5, 2) := by decide +kernel
theorem d_K_common_27 : decode prog_1_method_16_code 27 = .ok (.iload_n 3, 1) := by decide +kernel
theorem d_K_common_28 : decode prog_1_method_16_code 28 = .ok (.invokevirtual 116, 3) := by decide +kernel
theorem d_K_common_31 : decode prog_1_method_16_code 31 = .ok (.ifCond .ne 5, 3) := by decide +kernel
theorem d_K_common_34 : decode prog_1_method_16_code 34 = .ok (.iconst (-1), 1) := by decide +kernel
theorem d_K_common_35 : decode prog_1_method_16_code 35 = .ok (.ireturn, 1) := by decide +kernel
theorem d_K_common_36 : decode prog_1_method_16_code 36 = .ok (.iload 4, 2) := by decide +kernel
theorem d_K_common_38 : decode prog_1_method_16_code 38 = .ok (.ifCond .eq 11, 3) := by decide +kernel
theorem d_K_common_41 : decode prog_1_method_16_code 41 = .ok (.iload 4, 2) := by decide +kernel
theorem d_K_common_43 : decode prog_1_method_16_code 43 = .ok (.iconst 1, 1) := by decide +kernel
theorem d_K_common_44 : decode prog_1_method_16_code 44 = .ok (.if_icmp .eq 5, 3) := by decide +kernel
theorem d_K_common_47 : decode prog_1_method_16_code 47 = .ok (.iconst (-1), 1) := by decide +kernel
theorem d_K_common_48 : decode prog_1_method_16_code 48 = .ok (.ireturn, 1) := by decide +kernel
theorem d_K_common_49 : decode prog_1_method_16_code 49 = .ok (.aload_n 0, 1) := by decide +kernel
theorem d_K_common_50 : decode prog_1_method_16_code 50 = .ok (.getfield 31, 3) := by decide +kernel
theorem d_K_common_53 : decode prog_1_method_16_code 53 = .ok (.aload 5, 2) := by decide +kernel
theorem d_K_common_55 : decode prog_1_method_16_code 55 = .ok (.iload_n 2, 1) := by decide +kernel
theorem d_K_common_56 : decode prog_1_method_16_code 56 = .ok (.invokevirtual 119, 3) := by decide +kernel
theorem d_K_common_59 : decode prog_1_method_16_code 59 = .ok (.astore 6, 2) := by decide +kernel
theorem d_K_common_61 : decode prog_1_method_16_code 61 = .ok (.aload 6, 2) := by decide +kernel
theorem d_K_common_63 : decode prog_1_method_16_code 63 = .ok (.ifnonnull 6, 3) := by decide +kernel
theorem d_K_common_66 : decode prog_1_method_16_code 66 = .ok (.bipush (-2), 2) := by decide +kernel
theorem d_K_common_68 : decode prog_1_method_16_code 68 = .ok (.ireturn, 1) := by decide +kernel
theorem d_K_common_69 : decode prog_1_method_16_code 69 = .ok (.aload_n 0, 1) := by decide +kernel
theorem d_K_common_70 : decode prog_1_method_16_code 70 = .ok (.getfield 25, 3) := by decide +kernel
theorem d_K_common_73 : decode prog_1_method_16_code 73 = .ok (.aload 6, 2) := by decide +kernel
theorem d_K_common_75 : decode prog_1_method_16_code 75 = .ok (.invokevirtual 122, 3) := by decide +kernel
theorem d_K_common_78 : decode prog_1_method_16_code 78 = .ok (.aload_n 0, 1) := by decide +kernel
theorem d_K_common_79 : decode prog_1_method_16_code 79 = .ok (.getfield 31, 3) := by decide +kernel
theorem d_K_common_82 : decode prog_1_method_16_code 82 = .ok (.aload 5, 2) := by decide +kernel
theorem d_K_common_84 : decode prog_1_method_16_code 84 = .ok (.iload_n 3, 1) := by decide +kernel
theorem d_K_common_85 : decode prog_1_method_16_code 85 = .ok (.invokevirtual 119, 3) := by decide +kernel
theorem d_K_common_88 : decode prog_1_method_16_code 88 = .ok (.astore 7, 2) := by decide +kernel
theorem d_K_common_90 : decode prog_1_method_16_code 90 = .ok (.aload 7, 2) := by decide +kernel
theorem d_K_common_92 : decode prog_1_method_16_code 92 = .ok (.ifnonnull 6, 3) := by decide +kernel
theorem d_K_common_95 : decode prog_1_method_16_code 95 = .ok (.bipush (-2), 2) := by decide +kernel
theorem d_K_common_97 : decode prog_1_method_16_code 97 = .ok (.ireturn, 1) := by decide +kernel
theorem d_K_common_98 : decode prog_1_method_16_code 98 = .ok (.aload_n 0, 1) := by decide +kernel
theorem d_K_common_99 : decode prog_1_method_16_code 99 = .ok (.getfield 25, 3) := by decide +kernel
theorem d_K_common_102 : decode prog_1_method_16_code 102 = .ok (.iconst 0, 1) := by decide +kernel
theorem d_K_common_103 : decode prog_1_method_16_code 103 = .ok (.aload 7, 2) := by decide +kernel
theorem d_K_common_105 : decode prog_1_method_16_code 105 = .ok (.iconst 0, 1) := by decide +kernel
theorem d_K_common_106 : decode prog_1_method_16_code 106 = .ok (.invokevirtual 169, 3) := by decide +kernel
theorem d_K_common_109 : decode prog_1_method_16_code 109 = .ok (.istore 8, 2) := by decide +kernel
theorem d_K_common_111 : decode prog_1_method_16_code 111 = .ok (.iload 4, 2) := by decide +kernel
theorem d_K_common_113 : decode prog_1_method_16_code 113 = .ok (.ifCond .ne 8, 3) := by decide +kernel
theorem d_K_common_116 : decode prog_1_method_16_code 116 = .ok (.iload 8, 2) := by decide +kernel
theorem d_K_common_118 : decode prog_1_method_16_code 118 = .ok (.goto 14, 3) := by decide +kernel
theorem d_K_common_121 : decode prog_1_method_16_code 121 = .ok (.aload_n 0, 1) := by decide +kernel
theorem d_K_common_122 : decode prog_1_method_16_code 122 = .ok (.getfield 25, 3) := by decide +kernel
theorem d_K_common_125 : decode prog_1_method_16_code 125 = .ok (.aload 7, 2) := by decide +kernel
theorem d_K_common_127 : decode prog_1_method_16_code 127 = .ok (.iload 8, 2) := by decide +kernel
theorem d_K_common_129 : decode prog_1_method_16_code 129 = .ok (.invokevirtual 173, 3) := by decide +kernel
theorem d_K_common_132 : decode prog_1_method_16_code 132 = .ok (.ireturn, 1) := by decide +kernel
theorem d_K_countFree_0 : decode prog_1_method_26_code 0 = .ok (.sipush 512, 3) := by decide +kernel
theorem d_K_countFree_3 : decode prog_1_method_26_code 3 = .ok (.istore_n 1, 1) := by decide +kernel
theorem d_K_countFree_4 : decode prog_1_method_26_code 4 = .ok (.aload_n 0, 1) := by decide +kernel
theorem d_K_countFree_5 : decode prog_1_method_26_code 5 = .ok (.getfield 11, 3) := by decide +kernel
theorem d_K_countFree_8 : decode prog_1_method_26_code 8 = .ok (.astore_n 2, 1) := by decide +kernel
theorem d_K_countFree_9 : decode prog_1_method_26_code 9 = .ok (.aload_n 2, 1) := by decide +kernel
theorem d_K_countFree_10 : decode prog_1_method_26_code 10 = .ok (.arraylength, 1) := by decide +kernel
theorem d_K_countFree_11 : decode prog_1_method_26_code 11 = .ok (.istore_n 3, 1) := by decide +kernel
theorem d_K_countFree_12 : decode prog_1_method_26_code 12 = .ok (.iconst 0, 1) := by decide +kernel
theorem d_K_countFree_13 : decode prog_1_method_26_code 13 = .ok (.istore 4, 2) := by decide +kernel
theorem d_K_countFree_15 : decode prog_1_method_26_code 15 = .ok (.iload 4, 2) := by decide +kernel
theorem d_K_countFree_17 : decode prog_1_method_26_code 17 = .ok (.iload_n 3, 1) := by decide +kernel
theorem d_K_countFree_18 : decode prog_1_method_26_code 18 = .ok (.if_icmp .ge 28, 3) := by decide +kernel
theorem d_K_countFree_21 : decode prog_1_method_26_code 21 = .ok (.aload_n 2, 1) := by decide +kernel
theorem d_K_countFree_22 : decode prog_1_method_26_code 22 = .ok (.iload 4, 2) := by decide +kernel
theorem d_K_countFree_24 : decode prog_1_method_26_code 24 = .ok (.aaload, 1) := by decide +kernel
theorem d_K_countFree_25 : decode prog_1_method_26_code 25 = .ok (.astore 5, 2) := by decide +kernel
theorem d_K_countFree_27 : decode prog_1_method_26_code 27 = .ok (.aload 5, 2) := by decide +kernel
theorem d_K_countFree_29 : decode prog_1_method_26_code 29 = .ok (.ifnull 11, 3) := by decide +kernel
theorem d_K_countFree_32 : decode prog_1_method_26_code 32 = .ok (.iload_n 1, 1) := by decide +kernel
theorem d_K_countFree_33 : decode prog_1_method_26_code 33 = .ok (.aload 5, 2) := by decide +kernel
theorem d_K_countFree_35 : decode prog_1_method_26_code 35 = .ok (.invokevirtual 197, 3) := by decide +kernel
theorem d_K_countFree_38 : decode prog_1_method_26_code 38 = .ok (.isub, 1) := by decide +kernel
theorem d_K_countFree_39 : decode prog_1_method_26_code 39 = .ok (.istore_n 1, 1) := by decide +kernel
theorem d_K_countFree_40 : decode prog_1_method_26_code 40 = .ok (.iinc 4 1, 3) := by decide +kernel
theorem d_K_countFree_43 : decode prog_1_method_26_code 43 = .ok (.goto (-28), 3) := by decide +kernel
theorem d_K_countFree_46 : decode prog_1_method_26_code 46 = .ok (.iload_n 1, 1) := by decide +kernel
theorem d_K_countFree_47 : decode prog_1_method_26_code 47 = .ok (.ireturn, 1) := by decide +kernel
theorem d_K_cutAfter_0 : decode prog_1_method_18_code 0 = .ok (.aload_n 0, 1) := by decide +kernel
theorem d_K_cutAfter_1 : decode prog_1_method_18_code 1 = .ok (.invokevirtual 56, 3) := by decide +kernel
theorem d_K_cutAfter_4 : decode prog_1_method_18_code 4 = .ok (.iload_n 1, 1) := by decide +kernel
theorem d_K_cutAfter_5 : decode prog_1_method_18_code 5 = .ok (.ifCond .ge 5, 3) := by decide +kernel
theorem d_K_cutAfter_8 : decode prog_1_method_18_code 8 = .ok (.iconst 0, 1) := by decide +kernel
theorem d_K_cutAfter_9 : decode prog_1_method_18_code 9 = .ok (.ireturn, 1) := by decide +kernel
theorem d_K_cutAfter_10 : decode prog_1_method_18_code 10 = .ok (.aload_n 0, 1) := by decide +kernel
theorem d_K_cutAfter_11 : decode prog_1_method_18_code 11 = .ok (.getfield 45, 3) := by decide +kernel
theorem d_K_cutAfter_14 : decode prog_1_method_18_code 14 = .ok (.iload_n 1, 1) := by decide +kernel
theorem d_K_cutAfter_15 : decode prog_1_method_18_code 15 = .ok (.invokevirtual 177, 3) := by decide +kernel
theorem d_K_cutAfter_18 : decode prog_1_method_18_code 18 = .ok (.iconst 1, 1) := by decide +kernel
theorem d_K_cutAfter_19 : decode prog_1_method_18_code 19 = .ok (.ireturn, 1) := by decide +kernel
theorem d_K_damage_0 : decode prog_1_method_14_code 0 = .ok (.aload_n 0, 1) := by decide +kernel
theorem d_K_damage_1 : decode prog_1_method_14_code 1 = .ok (.invokevirtual 56, 3) := by decide +kernel
theorem d_K_damage_4 : decode prog_1_method_14_code 4 = .ok (.aload_n 0, 1) := by decide +kernel
theorem d_K_damage_5 : decode prog_1_method_14_code 5 = .ok (.iload_n 1, 1) := by decide +kernel
theorem d_K_damage_6 : decode prog_1_method_14_code 6 = .ok (.iload_n 2, 1) := by decide +kernel
theorem d_K_damage_7 : decode prog_1_method_14_code 7 = .ok (.invokevirtual 149, 3) := by decide +kernel
theorem d_K_damage_10 : decode prog_1_method_14_code 10 = .ok (.astore 5, 2) := by decide +kernel
theorem d_K_damage_12 : decode prog_1_method_14_code 12 = .ok (.aload 5, 2) := by decide +kernel
theorem d_K_damage_14 : decode prog_1_method_14_code 14 = .ok (.ifnull 12, 3) := by decide +kernel
theorem d_K_damage_17 : decode prog_1_method_14_code 17 = .ok (.aload 5, 2) := by decide +kernel
theorem d_K_damage_19 : decode prog_1_method_14_code 19 = .ok (.iload_n 3, 1) := by decide +kernel
theorem d_K_damage_20 : decode prog_1_method_14_code 20 = .ok (.invokevirtual 162, 3) := by decide +kernel
theorem d_K_damage_23 : decode prog_1_method_14_code 23 = .ok (.ifCond .ne 5, 3) := by decide +kernel
theorem d_K_damage_26 : decode prog_1_method_14_code 26 = .ok (.iconst 0, 1) := by decide +kernel
theorem d_K_damage_27 : decode prog_1_method_14_code 27 = .ok (.ireturn, 1) := by decide +kernel
theorem d_K_damage_28 : decode prog_1_method_14_code 28 = .ok (.aload 5, 2) := by decide +kernel
theorem d_K_damage_30 : decode prog_1_method_14_code 30 = .ok (.getfield 153, 3) := by decide +kernel
theorem d_K_damage_33 : decode prog_1_method_14_code 33 = .ok (.iload_n 3, 1) := by decide +kernel
theorem d_K_damage_34 : decode prog_1_method_14_code 34 = .ok (.aload 5, 2) := by decide +kernel
theorem d_K_damage_36 : decode prog_1_method_14_code 36 = .ok (.getfield 153, 3) := by decide +kernel
theorem d_K_damage_39 : decode prog_1_method_14_code 39 = .ok (.iload_n 3, 1) := by decide +kernel
theorem d_K_damage_40 : decode prog_1_method_14_code 40 = .ok (.baload, 1) := by decide +kernel
theorem d_K_damage_41 : decode prog_1_method_14_code 41 = .ok (.iload 4, 2) := by decide +kernel
theorem d_K_damage_43 : decode prog_1_method_14_code 43 = .ok (.ixor, 1) := by decide +kernel
theorem d_K_damage_44 : decode prog_1_method_14_code 44 = .ok (.i2b, 1) := by decide +kernel
theorem d_K_damage_45 : decode prog_1_method_14_code 45 = .ok (.bastore, 1) := by decide +kernel
theorem d_K_damage_46 : decode prog_1_method_14_code 46 = .ok (.iconst 1, 1) := by decide +kernel
theorem d_K_damage_47 : decode prog_1_method_14_code 47 = .ok (.ireturn, 1) := by decide +kernel
theorem d_K_documentAt_0 : decode prog_1_method_23_code 0 = .ok (.iload_n 1, 1) := by decide +kernel
theorem d_K_documentAt_1 : decode prog_1_method_23_code 1 = .ok (.ifCond .lt 18, 3) := by decide +kernel
theorem d_K_documentAt_4 : decode prog_1_method_23_code 4 = .ok (.iload_n 1, 1) := by decide +kernel
theorem d_K_documentAt_5 : decode prog_1_method_23_code 5 = .ok (.bipush 8, 2) := by decide +kernel
theorem d_K_documentAt_7 : decode prog_1_method_23_code 7 = .ok (.if_icmp .ge 12, 3) := by decide +kernel
theorem d_K_documentAt_10 : decode prog_1_method_23_code 10 = .ok (.aload_n 0, 1) := by decide +kernel
theorem d_K_documentAt_11 : decode prog_1_method_23_code 11 = .ok (.getfield 11, 3) := by decide +kernel
theorem d_K_documentAt_14 : decode prog_1_method_23_code 14 = .ok (.iload_n 1, 1) := by decide +kernel
theorem d_K_documentAt_15 : decode prog_1_method_23_code 15 = .ok (.aaload, 1) := by decide +kernel
theorem d_K_documentAt_16 : decode prog_1_method_23_code 16 = .ok (.goto 4, 3) := by decide +kernel
theorem d_K_documentAt_19 : decode prog_1_method_23_code 19 = .ok (.aconst_null, 1) := by decide +kernel
theorem d_K_documentAt_20 : decode prog_1_method_23_code 20 = .ok (.areturn, 1) := by decide +kernel
theorem d_K_dropDocument_0 : decode prog_1_method_10_code 0 = .ok (.aload_n 0, 1) := by decide +kernel
theorem d_K_dropDocument_1 : decode prog_1_method_10_code 1 = .ok (.invokevirtual 56, 3) := by decide +kernel
theorem d_K_dropDocument_4 : decode prog_1_method_10_code 4 = .ok (.aload_n 0, 1) := by decide +kernel
theorem d_K_dropDocument_5 : decode prog_1_method_10_code 5 = .ok (.iload_n 1, 1) := by decide +kernel
theorem d_K_dropDocument_6 : decode prog_1_method_10_code 6 = .ok (.invokevirtual 74, 3) := by decide +kernel
theorem d_K_dropDocument_9 : decode prog_1_method_10_code 9 = .ok (.ifnonnull 5, 3) := by decide +kernel
theorem d_K_dropDocument_12 : decode prog_1_method_10_code 12 = .ok (.iconst 0, 1) := by decide +kernel
theorem d_K_dropDocument_13 : decode prog_1_method_10_code 13 = .ok (.ireturn, 1) := by decide +kernel
theorem d_K_dropDocument_14 : decode prog_1_method_10_code 14 = .ok (.aload_n 0, 1) := by decide +kernel
theorem d_K_dropDocument_15 : decode prog_1_method_10_code 15 = .ok (.iconst 1, 1) := by decide +kernel
theorem d_K_dropDocument_16 : decode prog_1_method_10_code 16 = .ok (.invokevirtual 70, 3) := by decide +kernel
theorem d_K_dropDocument_19 : decode prog_1_method_10_code 19 = .ok (.aload_n 0, 1) := by decide +kernel
theorem d_K_dropDocument_20 : decode prog_1_method_10_code 20 = .ok (.getfield 11, 3) := by decide +kernel
theorem d_K_dropDocument_23 : decode prog_1_method_10_code 23 = .ok (.iload_n 1, 1) := by decide +kernel
theorem d_K_dropDocument_24 : decode prog_1_method_10_code 24 = .ok (.aconst_null, 1) := by decide +kernel
theorem d_K_dropDocument_25 : decode prog_1_method_10_code 25 = .ok (.aastore, 1) := by decide +kernel
theorem d_K_dropDocument_26 : decode prog_1_method_10_code 26 = .ok (.iconst 1, 1) := by decide +kernel
theorem d_K_dropDocument_27 : decode prog_1_method_10_code 27 = .ok (.ireturn, 1) := by decide +kernel
theorem d_K_end_0 : decode prog_1_method_3_code 0 = .ok (.aload_n 0, 1) := by decide +kernel
theorem d_K_end_1 : decode prog_1_method_3_code 1 = .ok (.invokevirtual 56, 3) := by decide +kernel
theorem d_K_end_4 : decode prog_1_method_3_code 4 = .ok (.aload_n 0, 1) := by decide +kernel
theorem d_K_end_5 : decode prog_1_method_3_code 5 = .ok (.getfield 18, 3) := by decide +kernel
theorem d_K_end_8 : decode prog_1_method_3_code 8 = .ok (.iload_n 1, 1) := by decide +kernel
theorem d_K_end_9 : decode prog_1_method_3_code 9 = .ok (.invokevirtual 67, 3) := by decide +kernel
theorem d_K_end_12 : decode prog_1_method_3_code 12 = .ok (.ireturn, 1) := by decide +kernel
theorem d_K_feed_0 : decode prog_1_method_2_code 0 = .ok (.aload_n 0, 1) := by decide +kernel
theorem d_K_feed_1 : decode prog_1_method_2_code 1 = .ok (.invokevirtual 56, 3) := by decide +kernel
theorem d_K_feed_4 : decode prog_1_method_2_code 4 = .ok (.aload_n 0, 1) := by decide +kernel
theorem d_K_feed_5 : decode prog_1_method_2_code 5 = .ok (.getfield 18, 3) := by decide +kernel
theorem d_K_feed_8 : decode prog_1_method_2_code 8 = .ok (.bipush 20, 2) := by decide +kernel
theorem d_K_feed_10 : decode prog_1_method_2_code 10 = .ok (.invokevirtual 59, 3) := by decide +kernel
theorem d_K_feed_13 : decode prog_1_method_2_code 13 = .ok (.ifCond .ne 5, 3) := by decide +kernel
theorem d_K_feed_16 : decode prog_1_method_2_code 16 = .ok (.iconst 0, 1) := by decide +kernel
theorem d_K_feed_17 : decode prog_1_method_2_code 17 = .ok (.ireturn, 1) := by decide +kernel
theorem d_K_feed_18 : decode prog_1_method_2_code 18 = .ok (.aload_n 0, 1) := by decide +kernel
theorem d_K_feed_19 : decode prog_1_method_2_code 19 = .ok (.getfield 18, 3) := by decide +kernel
theorem d_K_feed_22 : decode prog_1_method_2_code 22 = .ok (.iload_n 1, 1) := by decide +kernel
theorem d_K_feed_23 : decode prog_1_method_2_code 23 = .ok (.invokevirtual 63, 3) := by decide +kernel
theorem d_K_feed_26 : decode prog_1_method_2_code 26 = .ok (.aload_n 0, 1) := by decide +kernel
theorem d_K_feed_27 : decode prog_1_method_2_code 27 = .ok (.getfield 18, 3) := by decide +kernel
theorem d_K_feed_30 : decode prog_1_method_2_code 30 = .ok (.iload_n 2, 1) := by decide +kernel
theorem d_K_feed_31 : decode prog_1_method_2_code 31 = .ok (.invokevirtual 63, 3) := by decide +kernel
theorem d_K_feed_34 : decode prog_1_method_2_code 34 = .ok (.aload_n 0, 1) := by decide +kernel
theorem d_K_feed_35 : decode prog_1_method_2_code 35 = .ok (.getfield 18, 3) := by decide +kernel
theorem d_K_feed_38 : decode prog_1_method_2_code 38 = .ok (.iload_n 3, 1) := by decide +kernel
theorem d_K_feed_39 : decode prog_1_method_2_code 39 = .ok (.invokevirtual 63, 3) := by decide +kernel
theorem d_K_feed_42 : decode prog_1_method_2_code 42 = .ok (.aload_n 0, 1) := by decide +kernel
theorem d_K_feed_43 : decode prog_1_method_2_code 43 = .ok (.getfield 18, 3) := by decide +kernel
theorem d_K_feed_46 : decode prog_1_method_2_code 46 = .ok (.iload 4, 2) := by decide +kernel
theorem d_K_feed_48 : decode prog_1_method_2_code 48 = .ok (.invokevirtual 63, 3) := by decide +kernel
theorem d_K_feed_51 : decode prog_1_method_2_code 51 = .ok (.aload_n 0, 1) := by decide +kernel
theorem d_K_feed_52 : decode prog_1_method_2_code 52 = .ok (.getfield 18, 3) := by decide +kernel
theorem d_K_feed_55 : decode prog_1_method_2_code 55 = .ok (.iload 5, 2) := by decide +kernel
theorem d_K_feed_57 : decode prog_1_method_2_code 57 = .ok (.invokevirtual 63, 3) := by decide +kernel
theorem d_K_feed_60 : decode prog_1_method_2_code 60 = .ok (.iconst 1, 1) := by decide +kernel
theorem d_K_feed_61 : decode prog_1_method_2_code 61 = .ok (.ireturn, 1) := by decide +kernel
theorem d_K_fetch_0 : decode prog_1_method_6_code 0 = .ok (.aload_n 0, 1) := by decide +kernel
theorem d_K_fetch_1 : decode prog_1_method_6_code 1 = .ok (.invokevirtual 56, 3) := by decide +kernel
theorem d_K_fetch_4 : decode prog_1_method_6_code 4 = .ok (.aload_n 0, 1) := by decide +kernel
theorem d_K_fetch_5 : decode prog_1_method_6_code 5 = .ok (.iload_n 1, 1) := by decide +kernel
theorem d_K_fetch_6 : decode prog_1_method_6_code 6 = .ok (.invokevirtual 74, 3) := by decide +kernel
theorem d_K_fetch_9 : decode prog_1_method_6_code 9 = .ok (.astore_n 3, 1) := by decide +kernel
theorem d_K_fetch_10 : decode prog_1_method_6_code 10 = .ok (.aload_n 3, 1) := by decide +kernel
theorem d_K_fetch_11 : decode prog_1_method_6_code 11 = .ok (.ifnull 11, 3) := by decide +kernel
theorem d_K_fetch_14 : decode prog_1_method_6_code 14 = .ok (.aload_n 3, 1) := by decide +kernel
theorem d_K_fetch_15 : decode prog_1_method_6_code 15 = .ok (.iload_n 2, 1) := by decide +kernel
theorem d_K_fetch_16 : decode prog_1_method_6_code 16 = .ok (.invokevirtual 116, 3) := by decide +kernel
theorem d_K_fetch_19 : decode prog_1_method_6_code 19 = .ok (.ifCond .ne 5, 3) := by decide +kernel
theorem d_K_fetch_22 : decode prog_1_method_6_code 22 = .ok (.iconst (-1), 1) := by decide +kernel
theorem d_K_fetch_23 : decode prog_1_method_6_code 23 = .ok (.ireturn, 1) := by decide +kernel
theorem d_K_fetch_24 : decode prog_1_method_6_code 24 = .ok (.aload_n 0, 1) := by decide +kernel
theorem d_K_fetch_25 : decode prog_1_method_6_code 25 = .ok (.getfield 31, 3) := by decide +kernel
theorem d_K_fetch_28 : decode prog_1_method_6_code 28 = .ok (.aload_n 3, 1) := by decide +kernel
theorem d_K_fetch_29 : decode prog_1_method_6_code 29 = .ok (.iload_n 2, 1) := by decide +kernel
theorem d_K_fetch_30 : decode prog_1_method_6_code 30 = .ok (.invokevirtual 119, 3) := by decide +kernel
theorem d_K_fetch_33 : decode prog_1_method_6_code 33 = .ok (.astore 4, 2) := by decide +kernel
theorem d_K_fetch_35 : decode prog_1_method_6_code 35 = .ok (.aload 4, 2) := by decide +kernel
theorem d_K_fetch_37 : decode prog_1_method_6_code 37 = .ok (.ifnonnull 6, 3) := by decide +kernel
theorem d_K_fetch_40 : decode prog_1_method_6_code 40 = .ok (.bipush (-2), 2) := by decide +kernel
theorem d_K_fetch_42 : decode prog_1_method_6_code 42 = .ok (.ireturn, 1) := by decide +kernel
theorem d_K_fetch_43 : decode prog_1_method_6_code 43 = .ok (.aload_n 0, 1) := by decide +kernel
theorem d_K_fetch_44 : decode prog_1_method_6_code 44 = .ok (.getfield 22, 3) := by decide +kernel
theorem d_K_fetch_47 : decode prog_1_method_6_code 47 = .ok (.aload 4, 2) := by decide +kernel
theorem d_K_fetch_49 : decode prog_1_method_6_code 49 = .ok (.invokevirtual 122, 3) := by decide +kernel
theorem d_K_fetch_52 : decode prog_1_method_6_code 52 = .ok (.aload_n 0, 1) := by decide +kernel
theorem d_K_fetch_53 : decode prog_1_method_6_code 53 = .ok (.iload_n 2, 1) := by decide +kernel
theorem d_K_fetch_54 : decode prog_1_method_6_code 54 = .ok (.invokestatic 126, 3) := by decide +kernel
theorem d_K_fetch_57 : decode prog_1_method_6_code 57 = .ok (.putfield 53, 3) := by decide +kernel
theorem d_K_fetch_60 : decode prog_1_method_6_code 60 = .ok (.aload_n 0, 1) := by decide +kernel
theorem d_K_fetch_61 : decode prog_1_method_6_code 61 = .ok (.getfield 22, 3) := by decide +kernel
theorem d_K_fetch_64 : decode prog_1_method_6_code 64 = .ok (.getfield 131, 3) := by decide +kernel
theorem d_K_fetch_67 : decode prog_1_method_6_code 67 = .ok (.ireturn, 1) := by decide +kernel
theorem d_K_freeBlocks_0 : decode prog_1_method_17_code 0 = .ok (.aload_n 0, 1) := by decide +kernel
theorem d_K_freeBlocks_1 : decode prog_1_method_17_code 1 = .ok (.invokevirtual 56, 3) := by decide +kernel
theorem d_K_freeBlocks_4 : decode prog_1_method_17_code 4 = .ok (.aload_n 0, 1) := by decide +kernel
theorem d_K_freeBlocks_5 : decode prog_1_method_17_code 5 = .ok (.invokevirtual 97, 3) := by decide +kernel
theorem d_K_freeBlocks_8 : decode prog_1_method_17_code 8 = .ok (.ireturn, 1) := by decide +kernel
theorem d_K_isDown_0 : decode prog_1_method_20_code 0 = .ok (.aload_n 0, 1) := by decide +kernel
theorem d_K_isDown_1 : decode prog_1_method_20_code 1 = .ok (.getfield 45, 3) := by decide +kernel
theorem d_K_isDown_4 : decode prog_1_method_20_code 4 = .ok (.getfield 180, 3) := by decide +kernel
theorem d_K_isDown_7 : decode prog_1_method_20_code 7 = .ok (.ireturn, 1) := by decide +kernel
theorem d_K_isSound_0 : decode prog_1_method_25_code 0 = .ok (.aload_n 1, 1) := by decide +kernel
theorem d_K_isSound_1 : decode prog_1_method_25_code 1 = .ok (.iload_n 2, 1) := by decide +kernel
theorem d_K_isSound_2 : decode prog_1_method_25_code 2 = .ok (.invokevirtual 193, 3) := by decide +kernel
theorem d_K_isSound_5 : decode prog_1_method_25_code 5 = .ok (.astore_n 3, 1) := by decide +kernel
theorem d_K_isSound_6 : decode prog_1_method_25_code 6 = .ok (.aload_n 0, 1) := by decide +kernel
theorem d_K_isSound_7 : decode prog_1_method_25_code 7 = .ok (.getfield 31, 3) := by decide +kernel
theorem d_K_isSound_10 : decode prog_1_method_25_code 10 = .ok (.aload_n 1, 1) := by decide +kernel
theorem d_K_isSound_11 : decode prog_1_method_25_code 11 = .ok (.iload_n 2, 1) := by decide +kernel
theorem d_K_isSound_12 : decode prog_1_method_25_code 12 = .ok (.invokevirtual 119, 3) := by decide +kernel
theorem d_K_isSound_15 : decode prog_1_method_25_code 15 = .ok (.astore 4, 2) := by decide +kernel
theorem d_K_isSound_17 : decode prog_1_method_25_code 17 = .ok (.aload_n 3, 1) := by decide +kernel
theorem d_K_isSound_18 : decode prog_1_method_25_code 18 = .ok (.ifnull 24, 3) := by decide +kernel
theorem d_K_isSound_21 : decode prog_1_method_25_code 21 = .ok (.aload 4, 2) := by decide +kernel
theorem d_K_isSound_23 : decode prog_1_method_25_code 23 = .ok (.ifnull 19, 3) := by decide +kernel
theorem d_K_isSound_26 : decode prog_1_method_25_code 26 = .ok (.aload 4, 2) := by decide +kernel
theorem d_K_isSound_28 : decode prog_1_method_25_code 28 = .ok (.invokevirtual 103, 3) := by decide +kernel
theorem d_K_isSound_31 : decode prog_1_method_25_code 31 = .ok (.aload_n 3, 1) := by decide +kernel
theorem d_K_isSound_32 : decode prog_1_method_25_code 32 = .ok (.getfield 160, 3) := by decide +kernel
theorem d_K_isSound_35 : decode prog_1_method_25_code 35 = .ok (.if_icmp .ne 7, 3) := by decide +kernel
theorem d_K_isSound_38 : decode prog_1_method_25_code 38 = .ok (.iconst 1, 1) := by decide +kernel
theorem d_K_isSound_39 : decode prog_1_method_25_code 39 = .ok (.goto 4, 3) := by decide +kernel
theorem d_K_isSound_42 : decode prog_1_method_25_code 42 = .ok (.iconst 0, 1) := by decide +kernel
theorem d_K_isSound_43 : decode prog_1_method_25_code 43 = .ok (.ireturn, 1) := by decide +kernel
theorem d_K_keptRevision_0 : decode prog_1_method_24_code 0 = .ok (.aload_n 0, 1) := by decide +kernel
theorem d_K_keptRevision_1 : decode prog_1_method_24_code 1 = .ok (.iload_n 1, 1) := by decide +kernel
theorem d_K_keptRevision_2 : decode prog_1_method_24_code 2 = .ok (.invokevirtual 74, 3) := by decide +kernel
theorem d_K_keptRevision_5 : decode prog_1_method_24_code 5 = .ok (.astore_n 3, 1) := by decide +kernel
theorem d_K_keptRevision_6 : decode prog_1_method_24_code 6 = .ok (.aload_n 3, 1) := by decide +kernel
theorem d_K_keptRevision_7 : decode prog_1_method_24_code 7 = .ok (.ifnonnull 7, 3) := by decide +kernel
theorem d_K_keptRevision_10 : decode prog_1_method_24_code 10 = .ok (.aconst_null, 1) := by decide +kernel
theorem d_K_keptRevision_11 : decode prog_1_method_24_code 11 = .ok (.goto 8, 3) := by decide +kernel
theorem d_K_keptRevision_14 : decode prog_1_method_24_code 14 = .ok (.aload_n 3, 1) := by decide +kernel
theorem d_K_keptRevision_15 : decode prog_1_method_24_code 15 = .ok (.iload_n 2, 1) := by decide +kernel
theorem d_K_keptRevision_16 : decode prog_1_method_24_code 16 = .ok (.invokevirtual 193, 3) := by decide +kernel
theorem d_K_keptRevision_19 : decode prog_1_method_24_code 19 = .ok (.areturn, 1) := by decide +kernel
theorem d_K_make_0 : decode prog_1_method_4_code 0 = .ok (.aload_n 0, 1) := by decide +kernel
theorem d_K_make_1 : decode prog_1_method_4_code 1 = .ok (.invokevirtual 56, 3) := by decide +kernel
theorem d_K_make_4 : decode prog_1_method_4_code 4 = .ok (.aload_n 0, 1) := by decide +kernel
theorem d_K_make_5 : decode prog_1_method_4_code 5 = .ok (.getfield 49, 3) := by decide +kernel
theorem d_K_make_8 : decode prog_1_method_4_code 8 = .ok (.bipush 8, 2) := by decide +kernel
theorem d_K_make_10 : decode prog_1_method_4_code 10 = .ok (.if_icmp .lt 5, 3) := by decide +kernel
theorem d_K_make_13 : decode prog_1_method_4_code 13 = .ok (.iconst (-1), 1) := by decide +kernel
theorem d_K_make_14 : decode prog_1_method_4_code 14 = .ok (.ireturn, 1) := by decide +kernel
theorem d_K_make_15 : decode prog_1_method_4_code 15 = .ok (.aload_n 0, 1) := by decide +kernel
theorem d_K_make_16 : decode prog_1_method_4_code 16 = .ok (.iconst 1, 1) := by decide +kernel
theorem d_K_make_17 : decode prog_1_method_4_code 17 = .ok (.invokevirtual 70, 3) := by decide +kernel
theorem d_K_make_20 : decode prog_1_method_4_code 20 = .ok (.aload_n 0, 1) := by decide +kernel
theorem d_K_make_21 : decode prog_1_method_4_code 21 = .ok (.getfield 49, 3) := by decide +kernel
theorem d_K_make_24 : decode prog_1_method_4_code 24 = .ok (.istore_n 1, 1) := by decide +kernel
theorem d_K_make_25 : decode prog_1_method_4_code 25 = .ok (.aload_n 0, 1) := by decide +kernel
theorem d_K_make_26 : decode prog_1_method_4_code 26 = .ok (.getfield 11, 3) := by decide +kernel
theorem d_K_make_29 : decode prog_1_method_4_code 29 = .ok (.iload_n 1, 1) := by decide +kernel
theorem d_K_make_30 : decode prog_1_method_4_code 30 = .ok (.new 9, 3) := by decide +kernel
theorem d_K_make_33 : decode prog_1_method_4_code 33 = .ok (.dup, 1) := by decide +kernel
theorem d_K_make_34 : decode prog_1_method_4_code 34 = .ok (.invokespecial 73, 3) := by decide +kernel
theorem d_K_make_37 : decode prog_1_method_4_code 37 = .ok (.aastore, 1) := by decide +kernel
theorem d_K_make_38 : decode prog_1_method_4_code 38 = .ok (.aload_n 0, 1) := by decide +kernel
theorem d_K_make_39 : decode prog_1_method_4_code 39 = .ok (.dup, 1) := by decide +kernel
theorem d_K_make_40 : decode prog_1_method_4_code 40 = .ok (.getfield 49, 3) := by decide +kernel
theorem d_K_make_43 : decode prog_1_method_4_code 43 = .ok (.iconst 1, 1) := by decide +kernel
theorem d_K_make_44 : decode prog_1_method_4_code 44 = .ok (.iadd, 1) := by decide +kernel
theorem d_K_make_45 : decode prog_1_method_4_code 45 = .ok (.putfield 49, 3) := by decide +kernel
theorem d_K_make_48 : decode prog_1_method_4_code 48 = .ok (.iload_n 1, 1) := by decide +kernel
theorem d_K_make_49 : decode prog_1_method_4_code 49 = .ok (.ireturn, 1) := by decide +kernel
theorem d_K_needPower_0 : decode prog_1_method_21_code 0 = .ok (.aload_n 0, 1) := by decide +kernel
theorem d_K_needPower_1 : decode prog_1_method_21_code 1 = .ok (.getfield 45, 3) := by decide +kernel
theorem d_K_needPower_4 : decode prog_1_method_21_code 4 = .ok (.getfield 180, 3) := by decide +kernel
theorem d_K_needPower_7 : decode prog_1_method_21_code 7 = .ok (.ifCond .eq 11, 3) := by decide +kernel
theorem d_K_needPower_10 : decode prog_1_method_21_code 10 = .ok (.new 187, 3) := by decide +kernel
theorem d_K_needPower_13 : decode prog_1_method_21_code 13 = .ok (.dup, 1) := by decide +kernel
theorem d_K_needPower_14 : decode prog_1_method_21_code 14 = .ok (.invokespecial 189, 3) := by decide +kernel
theorem d_K_needPower_17 : decode prog_1_method_21_code 17 = .ok (.athrow, 1) := by decide +kernel
theorem d_K_needPower_18 : decode prog_1_method_21_code 18 = .ok (.return_, 1) := by decide +kernel
theorem d_K_out_0 : decode prog_1_method_7_code 0 = .ok (.aload_n 0, 1) := by decide +kernel
theorem d_K_out_1 : decode prog_1_method_7_code 1 = .ok (.invokevirtual 56, 3) := by decide +kernel
theorem d_K_out_4 : decode prog_1_method_7_code 4 = .ok (.aload_n 0, 1) := by decide +kernel
theorem d_K_out_5 : decode prog_1_method_7_code 5 = .ok (.getfield 22, 3) := by decide +kernel
theorem d_K_out_8 : decode prog_1_method_7_code 8 = .ok (.iload_n 1, 1) := by decide +kernel
theorem d_K_out_9 : decode prog_1_method_7_code 9 = .ok (.invokevirtual 134, 3) := by decide +kernel
theorem d_K_out_12 : decode prog_1_method_7_code 12 = .ok (.ireturn, 1) := by decide +kernel
theorem d_K_pieceByte_0 : decode prog_1_method_13_code 0 = .ok (.aload_n 0, 1) := by decide +kernel
theorem d_K_pieceByte_1 : decode prog_1_method_13_code 1 = .ok (.invokevirtual 56, 3) := by decide +kernel
theorem d_K_pieceByte_4 : decode prog_1_method_13_code 4 = .ok (.aload_n 0, 1) := by decide +kernel
theorem d_K_pieceByte_5 : decode prog_1_method_13_code 5 = .ok (.iload_n 1, 1) := by decide +kernel
theorem d_K_pieceByte_6 : decode prog_1_method_13_code 6 = .ok (.iload_n 2, 1) := by decide +kernel
theorem d_K_pieceByte_7 : decode prog_1_method_13_code 7 = .ok (.invokevirtual 149, 3) := by decide +kernel
theorem d_K_pieceByte_10 : decode prog_1_method_13_code 10 = .ok (.astore 4, 2) := by decide +kernel
theorem d_K_pieceByte_12 : decode prog_1_method_13_code 12 = .ok (.aload 4, 2) := by decide +kernel
theorem d_K_pieceByte_14 : decode prog_1_method_13_code 14 = .ok (.ifnull 12, 3) := by decide +kernel
theorem d_K_pieceByte_17 : decode prog_1_method_13_code 17 = .ok (.aload 4, 2) := by decide +kernel
theorem d_K_pieceByte_19 : decode prog_1_method_13_code 19 = .ok (.iload_n 3, 1) := by decide +kernel
theorem d_K_pieceByte_20 : decode prog_1_method_13_code 20 = .ok (.invokevirtual 162, 3) := by decide +kernel
theorem d_K_pieceByte_23 : decode prog_1_method_13_code 23 = .ok (.ifCond .ne 5, 3) := by decide +kernel
theorem d_K_pieceByte_26 : decode prog_1_method_13_code 26 = .ok (.iconst (-1), 1) := by decide +kernel
theorem d_K_pieceByte_27 : decode prog_1_method_13_code 27 = .ok (.ireturn, 1) := by decide +kernel
theorem d_K_pieceByte_28 : decode prog_1_method_13_code 28 = .ok (.aload 4, 2) := by decide +kernel
theorem d_K_pieceByte_30 : decode prog_1_method_13_code 30 = .ok (.getfield 153, 3) := by decide +kernel
theorem d_K_pieceByte_33 : decode prog_1_method_13_code 33 = .ok (.iload_n 3, 1) := by decide +kernel
theorem d_K_pieceByte_34 : decode prog_1_method_13_code 34 = .ok (.baload, 1) := by decide +kernel
theorem d_K_pieceByte_35 : decode prog_1_method_13_code 35 = .ok (.sipush 255, 3) := by decide +kernel
theorem d_K_pieceByte_38 : decode prog_1_method_13_code 38 = .ok (.iand, 1) := by decide +kernel
theorem d_K_pieceByte_39 : decode prog_1_method_13_code 39 = .ok (.ireturn, 1) := by decide +kernel
theorem d_K_revision_0 : decode prog_1_method_12_code 0 = .ok (.aload_n 0, 1) := by decide +kernel
theorem d_K_revision_1 : decode prog_1_method_12_code 1 = .ok (.invokevirtual 56, 3) := by decide +kernel
theorem d_K_revision_4 : decode prog_1_method_12_code 4 = .ok (.aload_n 0, 1) := by decide +kernel
theorem d_K_revision_5 : decode prog_1_method_12_code 5 = .ok (.iload_n 1, 1) := by decide +kernel
theorem d_K_revision_6 : decode prog_1_method_12_code 6 = .ok (.invokevirtual 74, 3) := by decide +kernel
theorem d_K_revision_9 : decode prog_1_method_12_code 9 = .ok (.astore 4, 2) := by decide +kernel
theorem d_K_revision_11 : decode prog_1_method_12_code 11 = .ok (.aload_n 0, 1) := by decide +kernel
theorem d_K_revision_12 : decode prog_1_method_12_code 12 = .ok (.iload_n 1, 1) := by decide +kernel
theorem d_K_revision_13 : decode prog_1_method_12_code 13 = .ok (.iload_n 2, 1) := by decide +kernel
theorem d_K_revision_14 : decode prog_1_method_12_code 14 = .ok (.invokevirtual 149, 3) := by decide +kernel
theorem d_K_revision_17 : decode prog_1_method_12_code 17 = .ok (.astore 5, 2) := by decide +kernel
theorem d_K_revision_19 : decode prog_1_method_12_code 19 = .ok (.aload 4, 2) := by decide +kernel
theorem d_K_revision_21 : decode prog_1_method_12_code 21 = .ok (.ifnull 16, 3) := by decide +kernel
theorem d_K_revision_24 : decode prog_1_method_12_code 24 = .ok (.aload 4, 2) := by decide +kernel
theorem d_K_revision_26 : decode prog_1_method_12_code 26 = .ok (.iload_n 2, 1) := by decide +kernel
theorem d_K_revision_27 : decode prog_1_method_12_code 27 = .ok (.invokevirtual 116, 3) := by decide +kernel
theorem d_K_revision_30 : decode prog_1_method_12_code 30 = .ok (.ifCond .eq 7, 3) := by decide +kernel
theorem d_K_revision_33 : decode prog_1_method_12_code 33 = .ok (.iconst 1, 1) := by decide +kernel
theorem d_K_revision_34 : decode prog_1_method_12_code 34 = .ok (.goto 4, 3) := by decide +kernel
theorem d_K_revision_37 : decode prog_1_method_12_code 37 = .ok (.iconst 0, 1) := by decide +kernel
theorem d_K_revision_38 : decode prog_1_method_12_code 38 = .ok (.istore 6, 2) := by decide +kernel
theorem d_K_revision_40 : decode prog_1_method_12_code 40 = .ok (.aload 5, 2) := by decide +kernel
theorem d_K_revision_42 : decode prog_1_method_12_code 42 = .ok (.ifnull 17, 3) := by decide +kernel
theorem d_K_revision_45 : decode prog_1_method_12_code 45 = .ok (.iload 6, 2) := by decide +kernel
theorem d_K_revision_47 : decode prog_1_method_12_code 47 = .ok (.ifCond .ne 20, 3) := by decide +kernel
theorem d_K_revision_50 : decode prog_1_method_12_code 50 = .ok (.iload_n 3, 1) := by decide +kernel
theorem d_K_revision_51 : decode prog_1_method_12_code 51 = .ok (.ifCond .eq 16, 3) := by decide +kernel
theorem d_K_revision_54 : decode prog_1_method_12_code 54 = .ok (.iload_n 3, 1) := by decide +kernel
theorem d_K_revision_55 : decode prog_1_method_12_code 55 = .ok (.iconst 2, 1) := by decide +kernel
theorem d_K_revision_56 : decode prog_1_method_12_code 56 = .ok (.if_icmp .eq 11, 3) := by decide +kernel
theorem d_K_revision_59 : decode prog_1_method_12_code 59 = .ok (.new 140, 3) := by decide +kernel
theorem d_K_revision_62 : decode prog_1_method_12_code 62 = .ok (.dup, 1) := by decide +kernel
theorem d_K_revision_63 : decode prog_1_method_12_code 63 = .ok (.invokespecial 142, 3) := by decide +kernel
theorem d_K_revision_66 : decode prog_1_method_12_code 66 = .ok (.athrow, 1) := by decide +kernel
theorem d_K_revision_67 : decode prog_1_method_12_code 67 = .ok (.iload_n 3, 1) := by decide +kernel
theorem d_K_revision_68 : decode prog_1_method_12_code 68 = .ok (.tableswitch 47 0 2 #[28, 35, 41], 28) := by decide +kernel
theorem d_K_revision_96 : decode prog_1_method_12_code 96 = .ok (.aload 5, 2) := by decide +kernel
theorem d_K_revision_98 : decode prog_1_method_12_code 98 = .ok (.getfield 153, 3) := by decide +kernel
theorem d_K_revision_101 : decode prog_1_method_12_code 101 = .ok (.arraylength, 1) := by decide +kernel
theorem d_K_revision_102 : decode prog_1_method_12_code 102 = .ok (.ireturn, 1) := by decide +kernel
theorem d_K_revision_103 : decode prog_1_method_12_code 103 = .ok (.aload 5, 2) := by decide +kernel
theorem d_K_revision_105 : decode prog_1_method_12_code 105 = .ok (.getfield 157, 3) := by decide +kernel
theorem d_K_revision_108 : decode prog_1_method_12_code 108 = .ok (.ireturn, 1) := by decide +kernel
theorem d_K_revision_109 : decode prog_1_method_12_code 109 = .ok (.aload 5, 2) := by decide +kernel
theorem d_K_revision_111 : decode prog_1_method_12_code 111 = .ok (.getfield 160, 3) := by decide +kernel
theorem d_K_revision_114 : decode prog_1_method_12_code 114 = .ok (.ireturn, 1) := by decide +kernel
theorem d_K_revision_115 : decode prog_1_method_12_code 115 = .ok (.new 146, 3) := by decide +kernel
theorem d_K_revision_118 : decode prog_1_method_12_code 118 = .ok (.dup, 1) := by decide +kernel
theorem d_K_revision_119 : decode prog_1_method_12_code 119 = .ok (.invokespecial 148, 3) := by decide +kernel
theorem d_K_revision_122 : decode prog_1_method_12_code 122 = .ok (.athrow, 1) := by decide +kernel
theorem d_K_spendWrites_0 : decode prog_1_method_22_code 0 = .ok (.aload_n 0, 1) := by decide +kernel
theorem d_K_spendWrites_1 : decode prog_1_method_22_code 1 = .ok (.getfield 45, 3) := by decide +kernel
theorem d_K_spendWrites_4 : decode prog_1_method_22_code 4 = .ok (.iload_n 1, 1) := by decide +kernel
theorem d_K_spendWrites_5 : decode prog_1_method_22_code 5 = .ok (.invokevirtual 190, 3) := by decide +kernel
theorem d_K_spendWrites_8 : decode prog_1_method_22_code 8 = .ok (.ifCond .ne 20, 3) := by decide +kernel
theorem d_K_spendWrites_11 : decode prog_1_method_22_code 11 = .ok (.aload_n 0, 1) := by decide +kernel
theorem d_K_spendWrites_12 : decode prog_1_method_22_code 12 = .ok (.getfield 18, 3) := by decide +kernel
theorem d_K_spendWrites_15 : decode prog_1_method_22_code 15 = .ok (.iconst 0, 1) := by decide +kernel
theorem d_K_spendWrites_16 : decode prog_1_method_22_code 16 = .ok (.invokevirtual 67, 3) := by decide +kernel
theorem d_K_spendWrites_19 : decode prog_1_method_22_code 19 = .ok (.pop, 1) := by decide +kernel
theorem d_K_spendWrites_20 : decode prog_1_method_22_code 20 = .ok (.new 187, 3) := by decide +kernel
theorem d_K_spendWrites_23 : decode prog_1_method_22_code 23 = .ok (.dup, 1) := by decide +kernel
theorem d_K_spendWrites_24 : decode prog_1_method_22_code 24 = .ok (.invokespecial 189, 3) := by decide +kernel
theorem d_K_spendWrites_27 : decode prog_1_method_22_code 27 = .ok (.athrow, 1) := by decide +kernel
theorem d_K_spendWrites_28 : decode prog_1_method_22_code 28 = .ok (.return_, 1) := by decide +kernel
theorem d_K_start_0 : decode prog_1_method_19_code 0 = .ok (.aload_n 0, 1) := by decide +kernel
theorem d_K_start_1 : decode prog_1_method_19_code 1 = .ok (.getfield 45, 3) := by decide +kernel
theorem d_K_start_4 : decode prog_1_method_19_code 4 = .ok (.getfield 180, 3) := by decide +kernel
theorem d_K_start_7 : decode prog_1_method_19_code 7 = .ok (.ifCond .ne 5, 3) := by decide +kernel
theorem d_K_start_10 : decode prog_1_method_19_code 10 = .ok (.iconst 0, 1) := by decide +kernel
theorem d_K_start_11 : decode prog_1_method_19_code 11 = .ok (.ireturn, 1) := by decide +kernel
theorem d_K_start_12 : decode prog_1_method_19_code 12 = .ok (.aload_n 0, 1) := by decide +kernel
theorem d_K_start_13 : decode prog_1_method_19_code 13 = .ok (.getfield 45, 3) := by decide +kernel
theorem d_K_start_16 : decode prog_1_method_19_code 16 = .ok (.invokevirtual 184, 3) := by decide +kernel
theorem d_K_start_19 : decode prog_1_method_19_code 19 = .ok (.iconst 1, 1) := by decide +kernel
theorem d_K_start_20 : decode prog_1_method_19_code 20 = .ok (.ireturn, 1) := by decide +kernel
theorem d_K_steps_0 : decode prog_1_method_8_code 0 = .ok (.aload_n 0, 1) := by decide +kernel
theorem d_K_steps_1 : decode prog_1_method_8_code 1 = .ok (.invokevirtual 56, 3) := by decide +kernel
theorem d_K_steps_4 : decode prog_1_method_8_code 4 = .ok (.aload_n 0, 1) := by decide +kernel
theorem d_K_steps_5 : decode prog_1_method_8_code 5 = .ok (.getfield 53, 3) := by decide +kernel
theorem d_K_steps_8 : decode prog_1_method_8_code 8 = .ok (.ireturn, 1) := by decide +kernel
theorem d_K_trim_0 : decode prog_1_method_9_code 0 = .ok (.aload_n 0, 1) := by decide +kernel
theorem d_K_trim_1 : decode prog_1_method_9_code 1 = .ok (.invokevirtual 56, 3) := by decide +kernel
theorem d_K_trim_4 : decode prog_1_method_9_code 4 = .ok (.aload_n 0, 1) := by decide +kernel
theorem d_K_trim_5 : decode prog_1_method_9_code 5 = .ok (.iload_n 1, 1) := by decide +kernel
theorem d_K_trim_6 : decode prog_1_method_9_code 6 = .ok (.invokevirtual 74, 3) := by decide +kernel
theorem d_K_trim_9 : decode prog_1_method_9_code 9 = .ok (.astore_n 3, 1) := by decide +kernel
theorem d_K_trim_10 : decode prog_1_method_9_code 10 = .ok (.aload_n 3, 1) := by decide +kernel
theorem d_K_trim_11 : decode prog_1_method_9_code 11 = .ok (.ifnull 11, 3) := by decide +kernel
theorem d_K_trim_14 : decode prog_1_method_9_code 14 = .ok (.aload_n 3, 1) := by decide +kernel
theorem d_K_trim_15 : decode prog_1_method_9_code 15 = .ok (.iload_n 2, 1) := by decide +kernel
theorem d_K_trim_16 : decode prog_1_method_9_code 16 = .ok (.invokevirtual 116, 3) := by decide +kernel
theorem d_K_trim_19 : decode prog_1_method_9_code 19 = .ok (.ifCond .ne 5, 3) := by decide +kernel
theorem d_K_trim_22 : decode prog_1_method_9_code 22 = .ok (.iconst 0, 1) := by decide +kernel
theorem d_K_trim_23 : decode prog_1_method_9_code 23 = .ok (.ireturn, 1) := by decide +kernel
theorem d_K_trim_24 : decode prog_1_method_9_code 24 = .ok (.aload_n 0, 1) := by decide +kernel
theorem d_K_trim_25 : decode prog_1_method_9_code 25 = .ok (.iconst 1, 1) := by decide +kernel
theorem d_K_trim_26 : decode prog_1_method_9_code 26 = .ok (.invokevirtual 70, 3) := by decide +kernel
theorem d_K_trim_29 : decode prog_1_method_9_code 29 = .ok (.aload_n 3, 1) := by decide +kernel
theorem d_K_trim_30 : decode prog_1_method_9_code 30 = .ok (.iload_n 2, 1) := by decide +kernel
theorem d_K_trim_31 : decode prog_1_method_9_code 31 = .ok (.invokevirtual 137, 3) := by decide +kernel
theorem d_K_trim_34 : decode prog_1_method_9_code 34 = .ok (.iconst 1, 1) := by decide +kernel
theorem d_K_trim_35 : decode prog_1_method_9_code 35 = .ok (.ireturn, 1) := by decide +kernel
theorem d_K_verify_0 : decode prog_1_method_15_code 0 = .ok (.aload_n 0, 1) := by decide +kernel
theorem d_K_verify_1 : decode prog_1_method_15_code 1 = .ok (.invokevirtual 56, 3) := by decide +kernel
theorem d_K_verify_4 : decode prog_1_method_15_code 4 = .ok (.aload_n 0, 1) := by decide +kernel
theorem d_K_verify_5 : decode prog_1_method_15_code 5 = .ok (.iload_n 1, 1) := by decide +kernel
theorem d_K_verify_6 : decode prog_1_method_15_code 6 = .ok (.invokevirtual 74, 3) := by decide +kernel
theorem d_K_verify_9 : decode prog_1_method_15_code 9 = .ok (.astore_n 2, 1) := by decide +kernel
theorem d_K_verify_10 : decode prog_1_method_15_code 10 = .ok (.aload_n 2, 1) := by decide +kernel
theorem d_K_verify_11 : decode prog_1_method_15_code 11 = .ok (.ifnonnull 5, 3) := by decide +kernel
theorem d_K_verify_14 : decode prog_1_method_15_code 14 = .ok (.iconst (-1), 1) := by decide +kernel
theorem d_K_verify_15 : decode prog_1_method_15_code 15 = .ok (.ireturn, 1) := by decide +kernel
theorem d_K_verify_16 : decode prog_1_method_15_code 16 = .ok (.aload_n 2, 1) := by decide +kernel
theorem d_K_verify_17 : decode prog_1_method_15_code 17 = .ok (.getfield 143, 3) := by decide +kernel
theorem d_K_verify_20 : decode prog_1_method_15_code 20 = .ok (.istore_n 3, 1) := by decide +kernel
theorem d_K_verify_21 : decode prog_1_method_15_code 21 = .ok (.iload_n 3, 1) := by decide +kernel
theorem d_K_verify_22 : decode prog_1_method_15_code 22 = .ok (.aload_n 2, 1) := by decide +kernel
theorem d_K_verify_23 : decode prog_1_method_15_code 23 = .ok (.getfield 82, 3) := by decide +kernel
theorem d_K_verify_26 : decode prog_1_method_15_code 26 = .ok (.if_icmp .ge 20, 3) := by decide +kernel
theorem d_K_verify_29 : decode prog_1_method_15_code 29 = .ok (.aload_n 0, 1) := by decide +kernel
theorem d_K_verify_30 : decode prog_1_method_15_code 30 = .ok (.aload_n 2, 1) := by decide +kernel
theorem d_K_verify_31 : decode prog_1_method_15_code 31 = .ok (.iload_n 3, 1) := by decide +kernel
theorem d_K_verify_32 : decode prog_1_method_15_code 32 = .ok (.invokevirtual 165, 3) := by decide +kernel
theorem d_K_verify_35 : decode prog_1_method_15_code 35 = .ok (.ifCond .ne 5, 3) := by decide +kernel
theorem d_K_verify_38 : decode prog_1_method_15_code 38 = .ok (.iload_n 3, 1) := by decide +kernel
theorem d_K_verify_39 : decode prog_1_method_15_code 39 = .ok (.ireturn, 1) := by decide +kernel
theorem d_K_verify_40 : decode prog_1_method_15_code 40 = .ok (.iinc 3 1, 3) := by decide +kernel
theorem d_K_verify_43 : decode prog_1_method_15_code 43 = .ok (.goto (-22), 3) := by decide +kernel
theorem d_K_verify_46 : decode prog_1_method_15_code 46 = .ok (.iconst (-1), 1) := by decide +kernel
theorem d_K_verify_47 : decode prog_1_method_15_code 47 = .ok (.ireturn, 1) := by decide +kernel
theorem d_D_init_0 : decode prog_2_method_1_code 0 = .ok (.aload_n 0, 1) := by decide +kernel
theorem d_D_init_1 : decode prog_2_method_1_code 1 = .ok (.invokespecial 3, 3) := by decide +kernel
theorem d_D_init_4 : decode prog_2_method_1_code 4 = .ok (.aload_n 0, 1) := by decide +kernel
theorem d_D_init_5 : decode prog_2_method_1_code 5 = .ok (.bipush 64, 2) := by decide +kernel
theorem d_D_init_7 : decode prog_2_method_1_code 7 = .ok (.anewarray 9, 3) := by decide +kernel
theorem d_D_init_10 : decode prog_2_method_1_code 10 = .ok (.putfield 11, 3) := by decide +kernel
theorem d_D_init_13 : decode prog_2_method_1_code 13 = .ok (.aload_n 0, 1) := by decide +kernel
theorem d_D_init_14 : decode prog_2_method_1_code 14 = .ok (.iconst 0, 1) := by decide +kernel
theorem d_D_init_15 : decode prog_2_method_1_code 15 = .ok (.putfield 17, 3) := by decide +kernel
theorem d_D_init_18 : decode prog_2_method_1_code 18 = .ok (.aload_n 0, 1) := by decide +kernel
theorem d_D_init_19 : decode prog_2_method_1_code 19 = .ok (.iconst 0, 1) := by decide +kernel
theorem d_D_init_20 : decode prog_2_method_1_code 20 = .ok (.putfield 21, 3) := by decide +kernel
theorem d_D_init_23 : decode prog_2_method_1_code 23 = .ok (.return_, 1) := by decide +kernel
theorem d_D_add_0 : decode prog_2_method_6_code 0 = .ok (.aload_n 0, 1) := by decide +kernel
theorem d_D_add_1 : decode prog_2_method_6_code 1 = .ok (.getfield 21, 3) := by decide +kernel
theorem d_D_add_4 : decode prog_2_method_6_code 4 = .ok (.bipush 64, 2) := by decide +kernel
theorem d_D_add_6 : decode prog_2_method_6_code 6 = .ok (.if_icmp .ge 23, 3) := by decide +kernel
theorem d_D_add_9 : decode prog_2_method_6_code 9 = .ok (.aload_n 0, 1) := by decide +kernel
theorem d_D_add_10 : decode prog_2_method_6_code 10 = .ok (.getfield 11, 3) := by decide +kernel
theorem d_D_add_13 : decode prog_2_method_6_code 13 = .ok (.aload_n 0, 1) := by decide +kernel
theorem d_D_add_14 : decode prog_2_method_6_code 14 = .ok (.getfield 21, 3) := by decide +kernel
theorem d_D_add_17 : decode prog_2_method_6_code 17 = .ok (.aload_n 1, 1) := by decide +kernel
theorem d_D_add_18 : decode prog_2_method_6_code 18 = .ok (.aastore, 1) := by decide +kernel
theorem d_D_add_19 : decode prog_2_method_6_code 19 = .ok (.aload_n 0, 1) := by decide +kernel
theorem d_D_add_20 : decode prog_2_method_6_code 20 = .ok (.dup, 1) := by decide +kernel
theorem d_D_add_21 : decode prog_2_method_6_code 21 = .ok (.getfield 21, 3) := by decide +kernel
theorem d_D_add_24 : decode prog_2_method_6_code 24 = .ok (.iconst 1, 1) := by decide +kernel
theorem d_D_add_25 : decode prog_2_method_6_code 25 = .ok (.iadd, 1) := by decide +kernel
theorem d_D_add_26 : decode prog_2_method_6_code 26 = .ok (.putfield 21, 3) := by decide +kernel
theorem d_D_add_29 : decode prog_2_method_6_code 29 = .ok (.return_, 1) := by decide +kernel
theorem d_D_canBeAsked_0 : decode prog_2_method_4_code 0 = .ok (.iload_n 1, 1) := by decide +kernel
theorem d_D_canBeAsked_1 : decode prog_2_method_4_code 1 = .ok (.aload_n 0, 1) := by decide +kernel
theorem d_D_canBeAsked_2 : decode prog_2_method_4_code 2 = .ok (.getfield 17, 3) := by decide +kernel
theorem d_D_canBeAsked_5 : decode prog_2_method_4_code 5 = .ok (.if_icmp .lt 15, 3) := by decide +kernel
theorem d_D_canBeAsked_8 : decode prog_2_method_4_code 8 = .ok (.iload_n 1, 1) := by decide +kernel
theorem d_D_canBeAsked_9 : decode prog_2_method_4_code 9 = .ok (.aload_n 0, 1) := by decide +kernel
theorem d_D_canBeAsked_10 : decode prog_2_method_4_code 10 = .ok (.getfield 21, 3) := by decide +kernel
theorem d_D_canBeAsked_13 : decode prog_2_method_4_code 13 = .ok (.if_icmp .ge 7, 3) := by decide +kernel
theorem d_D_canBeAsked_16 : decode prog_2_method_4_code 16 = .ok (.iconst 1, 1) := by decide +kernel
theorem d_D_canBeAsked_17 : decode prog_2_method_4_code 17 = .ok (.goto 4, 3) := by decide +kernel
theorem d_D_canBeAsked_20 : decode prog_2_method_4_code 20 = .ok (.iconst 0, 1) := by decide +kernel
theorem d_D_canBeAsked_21 : decode prog_2_method_4_code 21 = .ok (.ireturn, 1) := by decide +kernel
theorem d_D_countBlocks_0 : decode prog_2_method_8_code 0 = .ok (.iconst 0, 1) := by decide +kernel
theorem d_D_countBlocks_1 : decode prog_2_method_8_code 1 = .ok (.istore_n 1, 1) := by decide +kernel
theorem d_D_countBlocks_2 : decode prog_2_method_8_code 2 = .ok (.iconst 0, 1) := by decide +kernel
theorem d_D_countBlocks_3 : decode prog_2_method_8_code 3 = .ok (.istore_n 2, 1) := by decide +kernel
theorem d_D_countBlocks_4 : decode prog_2_method_8_code 4 = .ok (.iload_n 2, 1) := by decide +kernel
theorem d_D_countBlocks_5 : decode prog_2_method_8_code 5 = .ok (.aload_n 0, 1) := by decide +kernel
theorem d_D_countBlocks_6 : decode prog_2_method_8_code 6 = .ok (.getfield 21, 3) := by decide +kernel
theorem d_D_countBlocks_9 : decode prog_2_method_8_code 9 = .ok (.if_icmp .ge 34, 3) := by decide +kernel
theorem d_D_countBlocks_12 : decode prog_2_method_8_code 12 = .ok (.aload_n 0, 1) := by decide +kernel
theorem d_D_countBlocks_13 : decode prog_2_method_8_code 13 = .ok (.getfield 11, 3) := by decide +kernel
theorem d_D_countBlocks_16 : decode prog_2_method_8_code 16 = .ok (.iload_n 2, 1) := by decide +kernel
theorem d_D_countBlocks_17 : decode prog_2_method_8_code 17 = .ok (.aaload, 1) := by decide +kernel
theorem d_D_countBlocks_18 : decode prog_2_method_8_code 18 = .ok (.ifnull 19, 3) := by decide +kernel
theorem d_D_countBlocks_21 : decode prog_2_method_8_code 21 = .ok (.iload_n 1, 1) := by decide +kernel
theorem d_D_countBlocks_22 : decode prog_2_method_8_code 22 = .ok (.aload_n 0, 1) := by decide +kernel
theorem d_D_countBlocks_23 : decode prog_2_method_8_code 23 = .ok (.getfield 11, 3) := by decide +kernel
theorem d_D_countBlocks_26 : decode prog_2_method_8_code 26 = .ok (.iload_n 2, 1) := by decide +kernel
theorem d_D_countBlocks_27 : decode prog_2_method_8_code 27 = .ok (.aaload, 1) := by decide +kernel
theorem d_D_countBlocks_28 : decode prog_2_method_8_code 28 = .ok (.getfield 28, 3) := by decide +kernel
theorem d_D_countBlocks_31 : decode prog_2_method_8_code 31 = .ok (.arraylength, 1) := by decide +kernel
theorem d_D_countBlocks_32 : decode prog_2_method_8_code 32 = .ok (.invokestatic 32, 3) := by decide +kernel
theorem d_D_countBlocks_35 : decode prog_2_method_8_code 35 = .ok (.iadd, 1) := by decide +kernel
theorem d_D_countBlocks_36 : decode prog_2_method_8_code 36 = .ok (.istore_n 1, 1) := by decide +kernel
theorem d_D_countBlocks_37 : decode prog_2_method_8_code 37 = .ok (.iinc 2 1, 3) := by decide +kernel
theorem d_D_countBlocks_40 : decode prog_2_method_8_code 40 = .ok (.goto (-36), 3) := by decide +kernel
theorem d_D_countBlocks_43 : decode prog_2_method_8_code 43 = .ok (.iload_n 1, 1) := by decide +kernel
theorem d_D_countBlocks_44 : decode prog_2_method_8_code 44 = .ok (.ireturn, 1) := by decide +kernel
theorem d_D_cutBefore_0 : decode prog_2_method_7_code 0 = .ok (.aload_n 0, 1) := by decide +kernel
theorem d_D_cutBefore_1 : decode prog_2_method_7_code 1 = .ok (.iload_n 1, 1) := by decide +kernel
theorem d_D_cutBefore_2 : decode prog_2_method_7_code 2 = .ok (.putfield 17, 3) := by decide +kernel
theorem d_D_cutBefore_5 : decode prog_2_method_7_code 5 = .ok (.iload_n 1, 1) := by decide +kernel
theorem d_D_cutBefore_6 : decode prog_2_method_7_code 6 = .ok (.invokestatic 24, 3) := by decide +kernel
theorem d_D_cutBefore_9 : decode prog_2_method_7_code 9 = .ok (.istore_n 2, 1) := by decide +kernel
theorem d_D_cutBefore_10 : decode prog_2_method_7_code 10 = .ok (.iload_n 1, 1) := by decide +kernel
theorem d_D_cutBefore_11 : decode prog_2_method_7_code 11 = .ok (.iconst 1, 1) := by decide +kernel
theorem d_D_cutBefore_12 : decode prog_2_method_7_code 12 = .ok (.isub, 1) := by decide +kernel
theorem d_D_cutBefore_13 : decode prog_2_method_7_code 13 = .ok (.istore_n 3, 1) := by decide +kernel
theorem d_D_cutBefore_14 : decode prog_2_method_7_code 14 = .ok (.iload_n 3, 1) := by decide +kernel
theorem d_D_cutBefore_15 : decode prog_2_method_7_code 15 = .ok (.ifCond .lt 29, 3) := by decide +kernel
theorem d_D_cutBefore_18 : decode prog_2_method_7_code 18 = .ok (.iload_n 3, 1) := by decide +kernel
theorem d_D_cutBefore_19 : decode prog_2_method_7_code 19 = .ok (.iload_n 2, 1) := by decide +kernel
theorem d_D_cutBefore_20 : decode prog_2_method_7_code 20 = .ok (.if_icmp .ne 11, 3) := by decide +kernel
theorem d_D_cutBefore_23 : decode prog_2_method_7_code 23 = .ok (.iload_n 2, 1) := by decide +kernel
theorem d_D_cutBefore_24 : decode prog_2_method_7_code 24 = .ok (.invokestatic 24, 3) := by decide +kernel
theorem d_D_cutBefore_27 : decode prog_2_method_7_code 27 = .ok (.istore_n 2, 1) := by decide +kernel
theorem d_D_cutBefore_28 : decode prog_2_method_7_code 28 = .ok (.goto 10, 3) := by decide +kernel
theorem d_D_cutBefore_31 : decode prog_2_method_7_code 31 = .ok (.aload_n 0, 1) := by decide +kernel
theorem d_D_cutBefore_32 : decode prog_2_method_7_code 32 = .ok (.getfield 11, 3) := by decide +kernel
theorem d_D_cutBefore_35 : decode prog_2_method_7_code 35 = .ok (.iload_n 3, 1) := by decide +kernel
theorem d_D_cutBefore_36 : decode prog_2_method_7_code 36 = .ok (.aconst_null, 1) := by decide +kernel
theorem d_D_cutBefore_37 : decode prog_2_method_7_code 37 = .ok (.aastore, 1) := by decide +kernel
theorem d_D_cutBefore_38 : decode prog_2_method_7_code 38 = .ok (.iinc 3 (-1), 3) := by decide +kernel
theorem d_D_cutBefore_41 : decode prog_2_method_7_code 41 = .ok (.goto (-27), 3) := by decide +kernel
theorem d_D_cutBefore_44 : decode prog_2_method_7_code 44 = .ok (.return_, 1) := by decide +kernel
theorem d_D_isFull_0 : decode prog_2_method_2_code 0 = .ok (.aload_n 0, 1) := by decide +kernel
theorem d_D_isFull_1 : decode prog_2_method_2_code 1 = .ok (.getfield 21, 3) := by decide +kernel
theorem d_D_isFull_4 : decode prog_2_method_2_code 4 = .ok (.bipush 64, 2) := by decide +kernel
theorem d_D_isFull_6 : decode prog_2_method_2_code 6 = .ok (.if_icmp .lt 7, 3) := by decide +kernel
theorem d_D_isFull_9 : decode prog_2_method_2_code 9 = .ok (.iconst 1, 1) := by decide +kernel
theorem d_D_isFull_10 : decode prog_2_method_2_code 10 = .ok (.goto 4, 3) := by decide +kernel
theorem d_D_isFull_13 : decode prog_2_method_2_code 13 = .ok (.iconst 0, 1) := by decide +kernel
theorem d_D_isFull_14 : decode prog_2_method_2_code 14 = .ok (.ireturn, 1) := by decide +kernel
theorem d_D_keptAt_0 : decode prog_2_method_5_code 0 = .ok (.iload_n 1, 1) := by decide +kernel
theorem d_D_keptAt_1 : decode prog_2_method_5_code 1 = .ok (.ifCond .lt 20, 3) := by decide +kernel
theorem d_D_keptAt_4 : decode prog_2_method_5_code 4 = .ok (.iload_n 1, 1) := by decide +kernel
theorem d_D_keptAt_5 : decode prog_2_method_5_code 5 = .ok (.aload_n 0, 1) := by decide +kernel
theorem d_D_keptAt_6 : decode prog_2_method_5_code 6 = .ok (.getfield 21, 3) := by decide +kernel
theorem d_D_keptAt_9 : decode prog_2_method_5_code 9 = .ok (.if_icmp .ge 12, 3) := by decide +kernel
theorem d_D_keptAt_12 : decode prog_2_method_5_code 12 = .ok (.aload_n 0, 1) := by decide +kernel
theorem d_D_keptAt_13 : decode prog_2_method_5_code 13 = .ok (.getfield 11, 3) := by decide +kernel
theorem d_D_keptAt_16 : decode prog_2_method_5_code 16 = .ok (.iload_n 1, 1) := by decide +kernel
theorem d_D_keptAt_17 : decode prog_2_method_5_code 17 = .ok (.aaload, 1) := by decide +kernel
theorem d_D_keptAt_18 : decode prog_2_method_5_code 18 = .ok (.goto 4, 3) := by decide +kernel
theorem d_D_keptAt_21 : decode prog_2_method_5_code 21 = .ok (.aconst_null, 1) := by decide +kernel
theorem d_D_keptAt_22 : decode prog_2_method_5_code 22 = .ok (.areturn, 1) := by decide +kernel
theorem d_D_newest_0 : decode prog_2_method_3_code 0 = .ok (.aload_n 0, 1) := by decide +kernel
theorem d_D_newest_1 : decode prog_2_method_3_code 1 = .ok (.getfield 21, 3) := by decide +kernel
theorem d_D_newest_4 : decode prog_2_method_3_code 4 = .ok (.ifCond .le 12, 3) := by decide +kernel
theorem d_D_newest_7 : decode prog_2_method_3_code 7 = .ok (.aload_n 0, 1) := by decide +kernel
theorem d_D_newest_8 : decode prog_2_method_3_code 8 = .ok (.getfield 21, 3) := by decide +kernel
theorem d_D_newest_11 : decode prog_2_method_3_code 11 = .ok (.iconst 1, 1) := by decide +kernel
theorem d_D_newest_12 : decode prog_2_method_3_code 12 = .ok (.isub, 1) := by decide +kernel
theorem d_D_newest_13 : decode prog_2_method_3_code 13 = .ok (.goto 4, 3) := by decide +kernel
theorem d_D_newest_16 : decode prog_2_method_3_code 16 = .ok (.iconst (-1), 1) := by decide +kernel
theorem d_D_newest_17 : decode prog_2_method_3_code 17 = .ok (.ireturn, 1) := by decide +kernel
theorem d_M_init_0 : decode prog_3_method_1_code 0 = .ok (.aload_n 0, 1) := by decide +kernel
theorem d_M_init_1 : decode prog_3_method_1_code 1 = .ok (.invokespecial 3, 3) := by decide +kernel
theorem d_M_init_4 : decode prog_3_method_1_code 4 = .ok (.aload_n 0, 1) := by decide +kernel
theorem d_M_init_5 : decode prog_3_method_1_code 5 = .ok (.new 9, 3) := by decide +kernel
theorem d_M_init_8 : decode prog_3_method_1_code 8 = .ok (.dup, 1) := by decide +kernel
theorem d_M_init_9 : decode prog_3_method_1_code 9 = .ok (.invokespecial 11, 3) := by decide +kernel
theorem d_M_init_12 : decode prog_3_method_1_code 12 = .ok (.putfield 12, 3) := by decide +kernel
theorem d_M_init_15 : decode prog_3_method_1_code 15 = .ok (.aload_n 0, 1) := by decide +kernel
theorem d_M_init_16 : decode prog_3_method_1_code 16 = .ok (.new 9, 3) := by decide +kernel
theorem d_M_init_19 : decode prog_3_method_1_code 19 = .ok (.dup, 1) := by decide +kernel
theorem d_M_init_20 : decode prog_3_method_1_code 20 = .ok (.invokespecial 11, 3) := by decide +kernel
theorem d_M_init_23 : decode prog_3_method_1_code 23 = .ok (.putfield 18, 3) := by decide +kernel
theorem d_M_init_26 : decode prog_3_method_1_code 26 = .ok (.aload_n 0, 1) := by decide +kernel
theorem d_M_init_27 : decode prog_3_method_1_code 27 = .ok (.iconst 0, 1) := by decide +kernel
theorem d_M_init_28 : decode prog_3_method_1_code 28 = .ok (.newarray .byte, 2) := by decide +kernel
theorem d_M_init_30 : decode prog_3_method_1_code 30 = .ok (.putfield 21, 3) := by decide +kernel
theorem d_M_init_33 : decode prog_3_method_1_code 33 = .ok (.aload_n 0, 1) := by decide +kernel
theorem d_M_init_34 : decode prog_3_method_1_code 34 = .ok (.iconst 0, 1) := by decide +kernel
theorem d_M_init_35 : decode prog_3_method_1_code 35 = .ok (.putfield 25, 3) := by decide +kernel
theorem d_M_init_38 : decode prog_3_method_1_code 38 = .ok (.return_, 1) := by decide +kernel
theorem d_M_copy_0 : decode prog_3_method_7_code 0 = .ok (.aload_n 0, 1) := by decide +kernel
theorem d_M_copy_1 : decode prog_3_method_7_code 1 = .ok (.invokevirtual 58, 3) := by decide +kernel
theorem d_M_copy_4 : decode prog_3_method_7_code 4 = .ok (.istore_n 2, 1) := by decide +kernel
theorem d_M_copy_5 : decode prog_3_method_7_code 5 = .ok (.iload_n 2, 1) := by decide +kernel
theorem d_M_copy_6 : decode prog_3_method_7_code 6 = .ok (.ifCond .lt 16, 3) := by decide +kernel
theorem d_M_copy_9 : decode prog_3_method_7_code 9 = .ok (.iload_n 1, 1) := by decide +kernel
theorem d_M_copy_10 : decode prog_3_method_7_code 10 = .ok (.aload_n 0, 1) := by decide +kernel
theorem d_M_copy_11 : decode prog_3_method_7_code 11 = .ok (.getfield 12, 3) := by decide +kernel
theorem d_M_copy_14 : decode prog_3_method_7_code 14 = .ok (.getfield 75, 3) := by decide +kernel
theorem d_M_copy_17 : decode prog_3_method_7_code 17 = .ok (.iload_n 2, 1) := by decide +kernel
theorem d_M_copy_18 : decode prog_3_method_7_code 18 = .ok (.isub, 1) := by decide +kernel
theorem d_M_copy_19 : decode prog_3_method_7_code 19 = .ok (.if_icmp .le 5, 3) := by decide +kernel
theorem d_M_copy_22 : decode prog_3_method_7_code 22 = .ok (.iconst 0, 1) := by decide +kernel
theorem d_M_copy_23 : decode prog_3_method_7_code 23 = .ok (.ireturn, 1) := by decide +kernel
theorem d_M_copy_24 : decode prog_3_method_7_code 24 = .ok (.iconst 0, 1) := by decide +kernel
theorem d_M_copy_25 : decode prog_3_method_7_code 25 = .ok (.istore_n 3, 1) := by decide +kernel
theorem d_M_copy_26 : decode prog_3_method_7_code 26 = .ok (.iload_n 3, 1) := by decide +kernel
theorem d_M_copy_27 : decode prog_3_method_7_code 27 = .ok (.iload_n 1, 1) := by decide +kernel
theorem d_M_copy_28 : decode prog_3_method_7_code 28 = .ok (.if_icmp .ge 26, 3) := by decide +kernel
theorem d_M_copy_31 : decode prog_3_method_7_code 31 = .ok (.aload_n 0, 1) := by decide +kernel
theorem d_M_copy_32 : decode prog_3_method_7_code 32 = .ok (.getfield 18, 3) := by decide +kernel
theorem d_M_copy_35 : decode prog_3_method_7_code 35 = .ok (.aload_n 0, 1) := by decide +kernel
theorem d_M_copy_36 : decode prog_3_method_7_code 36 = .ok (.getfield 12, 3) := by decide +kernel
theorem d_M_copy_39 : decode prog_3_method_7_code 39 = .ok (.iload_n 2, 1) := by decide +kernel
theorem d_M_copy_40 : decode prog_3_method_7_code 40 = .ok (.iload_n 3, 1) := by decide +kernel
theorem d_M_copy_41 : decode prog_3_method_7_code 41 = .ok (.iadd, 1) := by decide +kernel
theorem d_M_copy_42 : decode prog_3_method_7_code 42 = .ok (.invokevirtual 78, 3) := by decide +kernel
theorem d_M_copy_45 : decode prog_3_method_7_code 45 = .ok (.invokevirtual 71, 3) := by decide +kernel
theorem d_M_copy_48 : decode prog_3_method_7_code 48 = .ok (.iinc 3 1, 3) := by decide +kernel
theorem d_M_copy_51 : decode prog_3_method_7_code 51 = .ok (.goto (-25), 3) := by decide +kernel
theorem d_M_copy_54 : decode prog_3_method_7_code 54 = .ok (.iconst 1, 1) := by decide +kernel
theorem d_M_copy_55 : decode prog_3_method_7_code 55 = .ok (.ireturn, 1) := by decide +kernel
theorem d_M_insert_0 : decode prog_3_method_6_code 0 = .ok (.iload_n 1, 1) := by decide +kernel
theorem d_M_insert_1 : decode prog_3_method_6_code 1 = .ok (.aload_n 0, 1) := by decide +kernel
theorem d_M_insert_2 : decode prog_3_method_6_code 2 = .ok (.getfield 21, 3) := by decide +kernel
theorem d_M_insert_5 : decode prog_3_method_6_code 5 = .ok (.arraylength, 1) := by decide +kernel
theorem d_M_insert_6 : decode prog_3_method_6_code 6 = .ok (.aload_n 0, 1) := by decide +kernel
theorem d_M_insert_7 : decode prog_3_method_6_code 7 = .ok (.getfield 25, 3) := by decide +kernel
theorem d_M_insert_10 : decode prog_3_method_6_code 10 = .ok (.isub, 1) := by decide +kernel
theorem d_M_insert_11 : decode prog_3_method_6_code 11 = .ok (.if_icmp .le 5, 3) := by decide +kernel
theorem d_M_insert_14 : decode prog_3_method_6_code 14 = .ok (.iconst 0, 1) := by decide +kernel
theorem d_M_insert_15 : decode prog_3_method_6_code 15 = .ok (.ireturn, 1) := by decide +kernel
theorem d_M_insert_16 : decode prog_3_method_6_code 16 = .ok (.iconst 0, 1) := by decide +kernel
theorem d_M_insert_17 : decode prog_3_method_6_code 17 = .ok (.istore_n 2, 1) := by decide +kernel
theorem d_M_insert_18 : decode prog_3_method_6_code 18 = .ok (.iload_n 2, 1) := by decide +kernel
theorem d_M_insert_19 : decode prog_3_method_6_code 19 = .ok (.iload_n 1, 1) := by decide +kernel
theorem d_M_insert_20 : decode prog_3_method_6_code 20 = .ok (.if_icmp .ge 27, 3) := by decide +kernel
theorem d_M_insert_23 : decode prog_3_method_6_code 23 = .ok (.aload_n 0, 1) := by decide +kernel
theorem d_M_insert_24 : decode prog_3_method_6_code 24 = .ok (.getfield 18, 3) := by decide +kernel
theorem d_M_insert_27 : decode prog_3_method_6_code 27 = .ok (.aload_n 0, 1) := by decide +kernel
theorem d_M_insert_28 : decode prog_3_method_6_code 28 = .ok (.getfield 21, 3) := by decide +kernel
theorem d_M_insert_31 : decode prog_3_method_6_code 31 = .ok (.aload_n 0, 1) := by decide +kernel
theorem d_M_insert_32 : decode prog_3_method_6_code 32 = .ok (.getfield 25, 3) := by decide +kernel
theorem d_M_insert_35 : decode prog_3_method_6_code 35 = .ok (.iload_n 2, 1) := by decide +kernel
theorem d_M_insert_36 : decode prog_3_method_6_code 36 = .ok (.iadd, 1) := by decide +kernel
theorem d_M_insert_37 : decode prog_3_method_6_code 37 = .ok (.baload, 1) := by decide +kernel
theorem d_M_insert_38 : decode prog_3_method_6_code 38 = .ok (.invokevirtual 71, 3) := by decide +kernel
theorem d_M_insert_41 : decode prog_3_method_6_code 41 = .ok (.iinc 2 1, 3) := by decide +kernel
theorem d_M_insert_44 : decode prog_3_method_6_code 44 = .ok (.goto (-26), 3) := by decide +kernel
theorem d_M_insert_47 : decode prog_3_method_6_code 47 = .ok (.aload_n 0, 1) := by decide +kernel
theorem d_M_insert_48 : decode prog_3_method_6_code 48 = .ok (.dup, 1) := by decide +kernel
theorem d_M_insert_49 : decode prog_3_method_6_code 49 = .ok (.getfield 25, 3) := by decide +kernel
theorem d_M_insert_52 : decode prog_3_method_6_code 52 = .ok (.iload_n 1, 1) := by decide +kernel
theorem d_M_insert_53 : decode prog_3_method_6_code 53 = .ok (.iadd, 1) := by decide +kernel
theorem d_M_insert_54 : decode prog_3_method_6_code 54 = .ok (.putfield 25, 3) := by decide +kernel
theorem d_M_insert_57 : decode prog_3_method_6_code 57 = .ok (.iconst 1, 1) := by decide +kernel
theorem d_M_insert_58 : decode prog_3_method_6_code 58 = .ok (.ireturn, 1) := by decide +kernel
theorem d_M_makeAgain_0 : decode prog_3_method_3_code 0 = .ok (.aload_n 0, 1) := by decide +kernel
theorem d_M_makeAgain_1 : decode prog_3_method_3_code 1 = .ok (.getfield 18, 3) := by decide +kernel
theorem d_M_makeAgain_4 : decode prog_3_method_3_code 4 = .ok (.iconst 0, 1) := by decide +kernel
theorem d_M_makeAgain_5 : decode prog_3_method_3_code 5 = .ok (.invokevirtual 29, 3) := by decide +kernel
theorem d_M_makeAgain_8 : decode prog_3_method_3_code 8 = .ok (.pop, 1) := by decide +kernel
theorem d_M_makeAgain_9 : decode prog_3_method_3_code 9 = .ok (.aload_n 0, 1) := by decide +kernel
theorem d_M_makeAgain_10 : decode prog_3_method_3_code 10 = .ok (.aload_n 1, 1) := by decide +kernel
theorem d_M_makeAgain_11 : decode prog_3_method_3_code 11 = .ok (.iconst 0, 1) := by decide +kernel
theorem d_M_makeAgain_12 : decode prog_3_method_3_code 12 = .ok (.invokevirtual 41, 3) := by decide +kernel
theorem d_M_makeAgain_15 : decode prog_3_method_3_code 15 = .ok (.istore_n 3, 1) := by decide +kernel
theorem d_M_makeAgain_16 : decode prog_3_method_3_code 16 = .ok (.iconst 0, 1) := by decide +kernel
theorem d_M_makeAgain_17 : decode prog_3_method_3_code 17 = .ok (.istore 4, 2) := by decide +kernel
theorem d_M_makeAgain_19 : decode prog_3_method_3_code 19 = .ok (.bipush 32, 2) := by decide +kernel
theorem d_M_makeAgain_21 : decode prog_3_method_3_code 21 = .ok (.istore 5, 2) := by decide +kernel
theorem d_M_makeAgain_23 : decode prog_3_method_3_code 23 = .ok (.iload 5, 2) := by decide +kernel
theorem d_M_makeAgain_25 : decode prog_3_method_3_code 25 = .ok (.ifCond .le 38, 3) := by decide +kernel
theorem d_M_makeAgain_28 : decode prog_3_method_3_code 28 = .ok (.iload_n 3, 1) := by decide +kernel
theorem d_M_makeAgain_29 : decode prog_3_method_3_code 29 = .ok (.ifCond .eq 34, 3) := by decide +kernel
theorem d_M_makeAgain_32 : decode prog_3_method_3_code 32 = .ok (.iload_n 2, 1) := by decide +kernel
theorem d_M_makeAgain_33 : decode prog_3_method_3_code 33 = .ok (.iload 5, 2) := by decide +kernel
theorem d_M_makeAgain_35 : decode prog_3_method_3_code 35 = .ok (.iand, 1) := by decide +kernel
theorem d_M_makeAgain_36 : decode prog_3_method_3_code 36 = .ok (.ifCond .eq 18, 3) := by decide +kernel
theorem d_M_makeAgain_39 : decode prog_3_method_3_code 39 = .ok (.iload 4, 2) := by decide +kernel
theorem d_M_makeAgain_41 : decode prog_3_method_3_code 41 = .ok (.iload 5, 2) := by decide +kernel
theorem d_M_makeAgain_43 : decode prog_3_method_3_code 43 = .ok (.iadd, 1) := by decide +kernel
theorem d_M_makeAgain_44 : decode prog_3_method_3_code 44 = .ok (.istore 4, 2) := by decide +kernel
theorem d_M_makeAgain_46 : decode prog_3_method_3_code 46 = .ok (.aload_n 0, 1) := by decide +kernel
theorem d_M_makeAgain_47 : decode prog_3_method_3_code 47 = .ok (.aload_n 1, 1) := by decide +kernel
theorem d_M_makeAgain_48 : decode prog_3_method_3_code 48 = .ok (.iload 4, 2) := by decide +kernel
theorem d_M_makeAgain_50 : decode prog_3_method_3_code 50 = .ok (.invokevirtual 41, 3) := by decide +kernel
theorem d_M_makeAgain_53 : decode prog_3_method_3_code 53 = .ok (.istore_n 3, 1) := by decide +kernel
theorem d_M_makeAgain_54 : decode prog_3_method_3_code 54 = .ok (.iload 5, 2) := by decide +kernel
theorem d_M_makeAgain_56 : decode prog_3_method_3_code 56 = .ok (.iconst 2, 1) := by decide +kernel
theorem d_M_makeAgain_57 : decode prog_3_method_3_code 57 = .ok (.idiv, 1) := by decide +kernel
theorem d_M_makeAgain_58 : decode prog_3_method_3_code 58 = .ok (.istore 5, 2) := by decide +kernel
theorem d_M_makeAgain_60 : decode prog_3_method_3_code 60 = .ok (.goto (-37), 3) := by decide +kernel
theorem d_M_makeAgain_63 : decode prog_3_method_3_code 63 = .ok (.iload_n 3, 1) := by decide +kernel
theorem d_M_makeAgain_64 : decode prog_3_method_3_code 64 = .ok (.ifCond .eq 10, 3) := by decide +kernel
theorem d_M_makeAgain_67 : decode prog_3_method_3_code 67 = .ok (.aload_n 0, 1) := by decide +kernel
theorem d_M_makeAgain_68 : decode prog_3_method_3_code 68 = .ok (.getfield 18, 3) := by decide +kernel
theorem d_M_makeAgain_71 : decode prog_3_method_3_code 71 = .ok (.goto 4, 3) := by decide +kernel
theorem d_M_makeAgain_74 : decode prog_3_method_3_code 74 = .ok (.aconst_null, 1) := by decide +kernel
theorem d_M_makeAgain_75 : decode prog_3_method_3_code 75 = .ok (.areturn, 1) := by decide +kernel
theorem d_M_makeBase_0 : decode prog_3_method_2_code 0 = .ok (.iload_n 2, 1) := by decide +kernel
theorem d_M_makeBase_1 : decode prog_3_method_2_code 1 = .ok (.ifCond .ne 17, 3) := by decide +kernel
theorem d_M_makeBase_4 : decode prog_3_method_2_code 4 = .ok (.aload_n 0, 1) := by decide +kernel
theorem d_M_makeBase_5 : decode prog_3_method_2_code 5 = .ok (.getfield 18, 3) := by decide +kernel
theorem d_M_makeBase_8 : decode prog_3_method_2_code 8 = .ok (.iconst 0, 1) := by decide +kernel
theorem d_M_makeBase_9 : decode prog_3_method_2_code 9 = .ok (.invokevirtual 29, 3) := by decide +kernel
theorem d_M_makeBase_12 : decode prog_3_method_2_code 12 = .ok (.pop, 1) := by decide +kernel
theorem d_M_makeBase_13 : decode prog_3_method_2_code 13 = .ok (.aload_n 0, 1) := by decide +kernel
theorem d_M_makeBase_14 : decode prog_3_method_2_code 14 = .ok (.getfield 18, 3) := by decide +kernel
theorem d_M_makeBase_17 : decode prog_3_method_2_code 17 = .ok (.areturn, 1) := by decide +kernel
theorem d_M_makeBase_18 : decode prog_3_method_2_code 18 = .ok (.aload_n 0, 1) := by decide +kernel
theorem d_M_makeBase_19 : decode prog_3_method_2_code 19 = .ok (.aload_n 1, 1) := by decide +kernel
theorem d_M_makeBase_20 : decode prog_3_method_2_code 20 = .ok (.iload_n 2, 1) := by decide +kernel
theorem d_M_makeBase_21 : decode prog_3_method_2_code 21 = .ok (.invokestatic 33, 3) := by decide +kernel
theorem d_M_makeBase_24 : decode prog_3_method_2_code 24 = .ok (.invokevirtual 37, 3) := by decide +kernel
theorem d_M_makeBase_27 : decode prog_3_method_2_code 27 = .ok (.areturn, 1) := by decide +kernel
theorem d_M_makeNext_0 : decode prog_3_method_4_code 0 = .ok (.aload_n 1, 1) := by decide +kernel
theorem d_M_makeNext_1 : decode prog_3_method_4_code 1 = .ok (.iload_n 2, 1) := by decide +kernel
theorem d_M_makeNext_2 : decode prog_3_method_4_code 2 = .ok (.invokevirtual 45, 3) := by decide +kernel
theorem d_M_makeNext_5 : decode prog_3_method_4_code 5 = .ok (.astore_n 3, 1) := by decide +kernel
theorem d_M_makeNext_6 : decode prog_3_method_4_code 6 = .ok (.aload_n 3, 1) := by decide +kernel
theorem d_M_makeNext_7 : decode prog_3_method_4_code 7 = .ok (.ifnonnull 5, 3) := by decide +kernel
theorem d_M_makeNext_10 : decode prog_3_method_4_code 10 = .ok (.iconst 0, 1) := by decide +kernel
theorem d_M_makeNext_11 : decode prog_3_method_4_code 11 = .ok (.ireturn, 1) := by decide +kernel
theorem d_M_makeNext_12 : decode prog_3_method_4_code 12 = .ok (.aload_n 0, 1) := by decide +kernel
theorem d_M_makeNext_13 : decode prog_3_method_4_code 13 = .ok (.getfield 12, 3) := by decide +kernel
theorem d_M_makeNext_16 : decode prog_3_method_4_code 16 = .ok (.astore 4, 2) := by decide +kernel
theorem d_M_makeNext_18 : decode prog_3_method_4_code 18 = .ok (.aload_n 0, 1) := by decide +kernel
theorem d_M_makeNext_19 : decode prog_3_method_4_code 19 = .ok (.aload_n 0, 1) := by decide +kernel
theorem d_M_makeNext_20 : decode prog_3_method_4_code 20 = .ok (.getfield 18, 3) := by decide +kernel
theorem d_M_makeNext_23 : decode prog_3_method_4_code 23 = .ok (.putfield 12, 3) := by decide +kernel
theorem d_M_makeNext_26 : decode prog_3_method_4_code 26 = .ok (.aload_n 0, 1) := by decide +kernel
theorem d_M_makeNext_27 : decode prog_3_method_4_code 27 = .ok (.aload 4, 2) := by decide +kernel
theorem d_M_makeNext_29 : decode prog_3_method_4_code 29 = .ok (.putfield 18, 3) := by decide +kernel
theorem d_M_makeNext_32 : decode prog_3_method_4_code 32 = .ok (.aload_n 0, 1) := by decide +kernel
theorem d_M_makeNext_33 : decode prog_3_method_4_code 33 = .ok (.getfield 18, 3) := by decide +kernel
theorem d_M_makeNext_36 : decode prog_3_method_4_code 36 = .ok (.iconst 0, 1) := by decide +kernel
theorem d_M_makeNext_37 : decode prog_3_method_4_code 37 = .ok (.invokevirtual 29, 3) := by decide +kernel
theorem d_M_makeNext_40 : decode prog_3_method_4_code 40 = .ok (.pop, 1) := by decide +kernel
theorem d_M_makeNext_41 : decode prog_3_method_4_code 41 = .ok (.aload_n 0, 1) := by decide +kernel
theorem d_M_makeNext_42 : decode prog_3_method_4_code 42 = .ok (.aload_n 3, 1) := by decide +kernel
theorem d_M_makeNext_43 : decode prog_3_method_4_code 43 = .ok (.getfield 51, 3) := by decide +kernel
theorem d_M_makeNext_46 : decode prog_3_method_4_code 46 = .ok (.putfield 21, 3) := by decide +kernel
theorem d_M_makeNext_49 : decode prog_3_method_4_code 49 = .ok (.aload_n 0, 1) := by decide +kernel
theorem d_M_makeNext_50 : decode prog_3_method_4_code 50 = .ok (.iconst 0, 1) := by decide +kernel
theorem d_M_makeNext_51 : decode prog_3_method_4_code 51 = .ok (.putfield 25, 3) := by decide +kernel
theorem d_M_makeNext_54 : decode prog_3_method_4_code 54 = .ok (.iconst 1, 1) := by decide +kernel
theorem d_M_makeNext_55 : decode prog_3_method_4_code 55 = .ok (.istore 5, 2) := by decide +kernel
theorem d_M_makeNext_57 : decode prog_3_method_4_code 57 = .ok (.iconst 0, 1) := by decide +kernel
theorem d_M_makeNext_58 : decode prog_3_method_4_code 58 = .ok (.istore 6, 2) := by decide +kernel
theorem d_M_makeNext_60 : decode prog_3_method_4_code 60 = .ok (.iload 6, 2) := by decide +kernel
theorem d_M_makeNext_62 : decode prog_3_method_4_code 62 = .ok (.aload_n 0, 1) := by decide +kernel
theorem d_M_makeNext_63 : decode prog_3_method_4_code 63 = .ok (.getfield 21, 3) := by decide +kernel
theorem d_M_makeNext_66 : decode prog_3_method_4_code 66 = .ok (.arraylength, 1) := by decide +kernel
theorem d_M_makeNext_67 : decode prog_3_method_4_code 67 = .ok (.if_icmp .ge 32, 3) := by decide +kernel
theorem d_M_makeNext_70 : decode prog_3_method_4_code 70 = .ok (.aload_n 0, 1) := by decide +kernel
theorem d_M_makeNext_71 : decode prog_3_method_4_code 71 = .ok (.getfield 25, 3) := by decide +kernel
theorem d_M_makeNext_74 : decode prog_3_method_4_code 74 = .ok (.aload_n 0, 1) := by decide +kernel
theorem d_M_makeNext_75 : decode prog_3_method_4_code 75 = .ok (.getfield 21, 3) := by decide +kernel
theorem d_M_makeNext_78 : decode prog_3_method_4_code 78 = .ok (.arraylength, 1) := by decide +kernel
theorem d_M_makeNext_79 : decode prog_3_method_4_code 79 = .ok (.if_icmp .ge 20, 3) := by decide +kernel
theorem d_M_makeNext_82 : decode prog_3_method_4_code 82 = .ok (.iload 5, 2) := by decide +kernel
theorem d_M_makeNext_84 : decode prog_3_method_4_code 84 = .ok (.ifCond .eq 15, 3) := by decide +kernel
theorem d_M_makeNext_87 : decode prog_3_method_4_code 87 = .ok (.aload_n 0, 1) := by decide +kernel
theorem d_M_makeNext_88 : decode prog_3_method_4_code 88 = .ok (.invokevirtual 54, 3) := by decide +kernel
theorem d_M_makeNext_91 : decode prog_3_method_4_code 91 = .ok (.istore 5, 2) := by decide +kernel
theorem d_M_makeNext_93 : decode prog_3_method_4_code 93 = .ok (.iinc 6 1, 3) := by decide +kernel
theorem d_M_makeNext_96 : decode prog_3_method_4_code 96 = .ok (.goto (-36), 3) := by decide +kernel
theorem d_M_makeNext_99 : decode prog_3_method_4_code 99 = .ok (.iload 5, 2) := by decide +kernel
theorem d_M_makeNext_101 : decode prog_3_method_4_code 101 = .ok (.ireturn, 1) := by decide +kernel
theorem d_M_obeyCommand_0 : decode prog_3_method_5_code 0 = .ok (.aload_n 0, 1) := by decide +kernel
theorem d_M_obeyCommand_1 : decode prog_3_method_5_code 1 = .ok (.invokevirtual 58, 3) := by decide +kernel
theorem d_M_obeyCommand_4 : decode prog_3_method_5_code 4 = .ok (.istore_n 1, 1) := by decide +kernel
theorem d_M_obeyCommand_5 : decode prog_3_method_5_code 5 = .ok (.iload_n 1, 1) := by decide +kernel
theorem d_M_obeyCommand_6 : decode prog_3_method_5_code 6 = .ok (.iconst 2, 1) := by decide +kernel
theorem d_M_obeyCommand_7 : decode prog_3_method_5_code 7 = .ok (.idiv, 1) := by decide +kernel
theorem d_M_obeyCommand_8 : decode prog_3_method_5_code 8 = .ok (.istore_n 2, 1) := by decide +kernel
theorem d_M_obeyCommand_9 : decode prog_3_method_5_code 9 = .ok (.iload_n 1, 1) := by decide +kernel
theorem d_M_obeyCommand_10 : decode prog_3_method_5_code 10 = .ok (.ifCond .lt 18, 3) := by decide +kernel
theorem d_M_obeyCommand_13 : decode prog_3_method_5_code 13 = .ok (.iload_n 2, 1) := by decide +kernel
theorem d_M_obeyCommand_14 : decode prog_3_method_5_code 14 = .ok (.ifCond .eq 14, 3) := by decide +kernel
theorem d_M_obeyCommand_17 : decode prog_3_method_5_code 17 = .ok (.aload_n 0, 1) := by decide +kernel
theorem d_M_obeyCommand_18 : decode prog_3_method_5_code 18 = .ok (.getfield 18, 3) := by decide +kernel
theorem d_M_obeyCommand_21 : decode prog_3_method_5_code 21 = .ok (.iload_n 2, 1) := by decide +kernel
theorem d_M_obeyCommand_22 : decode prog_3_method_5_code 22 = .ok (.invokevirtual 62, 3) := by decide +kernel
theorem d_M_obeyCommand_25 : decode prog_3_method_5_code 25 = .ok (.ifCond .ne 5, 3) := by decide +kernel
theorem d_M_obeyCommand_28 : decode prog_3_method_5_code 28 = .ok (.iconst 0, 1) := by decide +kernel
theorem d_M_obeyCommand_29 : decode prog_3_method_5_code 29 = .ok (.ireturn, 1) := by decide +kernel
theorem d_M_obeyCommand_30 : decode prog_3_method_5_code 30 = .ok (.iload_n 1, 1) := by decide +kernel
theorem d_M_obeyCommand_31 : decode prog_3_method_5_code 31 = .ok (.iconst 2, 1) := by decide +kernel
theorem d_M_obeyCommand_32 : decode prog_3_method_5_code 32 = .ok (.irem, 1) := by decide +kernel
theorem d_M_obeyCommand_33 : decode prog_3_method_5_code 33 = .ok (.ifCond .ne 11, 3) := by decide +kernel
theorem d_M_obeyCommand_36 : decode prog_3_method_5_code 36 = .ok (.aload_n 0, 1) := by decide +kernel
theorem d_M_obeyCommand_37 : decode prog_3_method_5_code 37 = .ok (.iload_n 2, 1) := by decide +kernel
theorem d_M_obeyCommand_38 : decode prog_3_method_5_code 38 = .ok (.invokevirtual 65, 3) := by decide +kernel
theorem d_M_obeyCommand_41 : decode prog_3_method_5_code 41 = .ok (.goto 8, 3) := by decide +kernel
theorem d_M_obeyCommand_44 : decode prog_3_method_5_code 44 = .ok (.aload_n 0, 1) := by decide +kernel
theorem d_M_obeyCommand_45 : decode prog_3_method_5_code 45 = .ok (.iload_n 2, 1) := by decide +kernel
theorem d_M_obeyCommand_46 : decode prog_3_method_5_code 46 = .ok (.invokevirtual 68, 3) := by decide +kernel
theorem d_M_obeyCommand_49 : decode prog_3_method_5_code 49 = .ok (.ireturn, 1) := by decide +kernel
theorem d_M_readNumber_0 : decode prog_3_method_8_code 0 = .ok (.iconst 0, 1) := by decide +kernel
theorem d_M_readNumber_1 : decode prog_3_method_8_code 1 = .ok (.istore_n 1, 1) := by decide +kernel
theorem d_M_readNumber_2 : decode prog_3_method_8_code 2 = .ok (.iconst 0, 1) := by decide +kernel
theorem d_M_readNumber_3 : decode prog_3_method_8_code 3 = .ok (.istore_n 2, 1) := by decide +kernel
theorem d_M_readNumber_4 : decode prog_3_method_8_code 4 = .ok (.iload_n 2, 1) := by decide +kernel
theorem d_M_readNumber_5 : decode prog_3_method_8_code 5 = .ok (.iconst 3, 1) := by decide +kernel
theorem d_M_readNumber_6 : decode prog_3_method_8_code 6 = .ok (.if_icmp .ge 69, 3) := by decide +kernel
theorem d_M_readNumber_9 : decode prog_3_method_8_code 9 = .ok (.aload_n 0, 1) := by decide +kernel
theorem d_M_readNumber_10 : decode prog_3_method_8_code 10 = .ok (.getfield 25, 3) := by decide +kernel
theorem d_M_readNumber_13 : decode prog_3_method_8_code 13 = .ok (.aload_n 0, 1) := by decide +kernel
theorem d_M_readNumber_14 : decode prog_3_method_8_code 14 = .ok (.getfield 21, 3) := by decide +kernel
theorem d_M_readNumber_17 : decode prog_3_method_8_code 17 = .ok (.arraylength, 1) := by decide +kernel
theorem d_M_readNumber_18 : decode prog_3_method_8_code 18 = .ok (.if_icmp .lt 5, 3) := by decide +kernel
theorem d_M_readNumber_21 : decode prog_3_method_8_code 21 = .ok (.iconst (-1), 1) := by decide +kernel
theorem d_M_readNumber_22 : decode prog_3_method_8_code 22 = .ok (.ireturn, 1) := by decide +kernel
theorem d_M_readNumber_23 : decode prog_3_method_8_code 23 = .ok (.aload_n 0, 1) := by decide +kernel
theorem d_M_readNumber_24 : decode prog_3_method_8_code 24 = .ok (.getfield 21, 3) := by decide +kernel
theorem d_M_readNumber_27 : decode prog_3_method_8_code 27 = .ok (.aload_n 0, 1) := by decide +kernel
theorem d_M_readNumber_28 : decode prog_3_method_8_code 28 = .ok (.getfield 25, 3) := by decide +kernel
theorem d_M_readNumber_31 : decode prog_3_method_8_code 31 = .ok (.baload, 1) := by decide +kernel
theorem d_M_readNumber_32 : decode prog_3_method_8_code 32 = .ok (.sipush 255, 3) := by decide +kernel
theorem d_M_readNumber_35 : decode prog_3_method_8_code 35 = .ok (.iand, 1) := by decide +kernel
theorem d_M_readNumber_36 : decode prog_3_method_8_code 36 = .ok (.istore_n 3, 1) := by decide +kernel
theorem d_M_readNumber_37 : decode prog_3_method_8_code 37 = .ok (.aload_n 0, 1) := by decide +kernel
theorem d_M_readNumber_38 : decode prog_3_method_8_code 38 = .ok (.dup, 1) := by decide +kernel
theorem d_M_readNumber_39 : decode prog_3_method_8_code 39 = .ok (.getfield 25, 3) := by decide +kernel
theorem d_M_readNumber_42 : decode prog_3_method_8_code 42 = .ok (.iconst 1, 1) := by decide +kernel
theorem d_M_readNumber_43 : decode prog_3_method_8_code 43 = .ok (.iadd, 1) := by decide +kernel
theorem d_M_readNumber_44 : decode prog_3_method_8_code 44 = .ok (.putfield 25, 3) := by decide +kernel
theorem d_M_readNumber_47 : decode prog_3_method_8_code 47 = .ok (.iload_n 1, 1) := by decide +kernel
theorem d_M_readNumber_48 : decode prog_3_method_8_code 48 = .ok (.iload_n 3, 1) := by decide +kernel
theorem d_M_readNumber_49 : decode prog_3_method_8_code 49 = .ok (.sipush 128, 3) := by decide +kernel
theorem d_M_readNumber_52 : decode prog_3_method_8_code 52 = .ok (.irem, 1) := by decide +kernel
theorem d_M_readNumber_53 : decode prog_3_method_8_code 53 = .ok (.bipush 7, 2) := by decide +kernel
theorem d_M_readNumber_55 : decode prog_3_method_8_code 55 = .ok (.iload_n 2, 1) := by decide +kernel
theorem d_M_readNumber_56 : decode prog_3_method_8_code 56 = .ok (.imul, 1) := by decide +kernel
theorem d_M_readNumber_57 : decode prog_3_method_8_code 57 = .ok (.ishl, 1) := by decide +kernel
theorem d_M_readNumber_58 : decode prog_3_method_8_code 58 = .ok (.iadd, 1) := by decide +kernel
theorem d_M_readNumber_59 : decode prog_3_method_8_code 59 = .ok (.istore_n 1, 1) := by decide +kernel
theorem d_M_readNumber_60 : decode prog_3_method_8_code 60 = .ok (.iload_n 3, 1) := by decide +kernel
theorem d_M_readNumber_61 : decode prog_3_method_8_code 61 = .ok (.sipush 128, 3) := by decide +kernel
theorem d_M_readNumber_64 : decode prog_3_method_8_code 64 = .ok (.if_icmp .ge 5, 3) := by decide +kernel
theorem d_M_readNumber_67 : decode prog_3_method_8_code 67 = .ok (.iload_n 1, 1) := by decide +kernel
theorem d_M_readNumber_68 : decode prog_3_method_8_code 68 = .ok (.ireturn, 1) := by decide +kernel
theorem d_M_readNumber_69 : decode prog_3_method_8_code 69 = .ok (.iinc 2 1, 3) := by decide +kernel
theorem d_M_readNumber_72 : decode prog_3_method_8_code 72 = .ok (.goto (-68), 3) := by decide +kernel
theorem d_M_readNumber_75 : decode prog_3_method_8_code 75 = .ok (.iconst (-1), 1) := by decide +kernel
theorem d_M_readNumber_76 : decode prog_3_method_8_code 76 = .ok (.ireturn, 1) := by decide +kernel
theorem d_W_init_0 : decode prog_4_method_1_code 0 = .ok (.aload_n 0, 1) := by decide +kernel
theorem d_W_init_1 : decode prog_4_method_1_code 1 = .ok (.invokespecial 3, 3) := by decide +kernel
theorem d_W_init_4 : decode prog_4_method_1_code 4 = .ok (.aload_n 0, 1) := by decide +kernel
theorem d_W_init_5 : decode prog_4_method_1_code 5 = .ok (.sipush 512, 3) := by decide +kernel
theorem d_W_init_8 : decode prog_4_method_1_code 8 = .ok (.newarray .byte, 2) := by decide +kernel
theorem d_W_init_10 : decode prog_4_method_1_code 10 = .ok (.putfield 9, 3) := by decide +kernel
theorem d_W_init_13 : decode prog_4_method_1_code 13 = .ok (.aload_n 0, 1) := by decide +kernel
theorem d_W_init_14 : decode prog_4_method_1_code 14 = .ok (.iconst 0, 1) := by decide +kernel
theorem d_W_init_15 : decode prog_4_method_1_code 15 = .ok (.putfield 15, 3) := by decide +kernel
theorem d_W_init_18 : decode prog_4_method_1_code 18 = .ok (.return_, 1) := by decide +kernel
theorem d_W_digitsOf_0 : decode prog_4_method_7_code 0 = .ok (.iconst 1, 1) := by decide +kernel
theorem d_W_digitsOf_1 : decode prog_4_method_7_code 1 = .ok (.istore_n 1, 1) := by decide +kernel
theorem d_W_digitsOf_2 : decode prog_4_method_7_code 2 = .ok (.iload_n 0, 1) := by decide +kernel
theorem d_W_digitsOf_3 : decode prog_4_method_7_code 3 = .ok (.sipush 128, 3) := by decide +kernel
theorem d_W_digitsOf_6 : decode prog_4_method_7_code 6 = .ok (.idiv, 1) := by decide +kernel
theorem d_W_digitsOf_7 : decode prog_4_method_7_code 7 = .ok (.istore_n 2, 1) := by decide +kernel
theorem d_W_digitsOf_8 : decode prog_4_method_7_code 8 = .ok (.iload_n 2, 1) := by decide +kernel
theorem d_W_digitsOf_9 : decode prog_4_method_7_code 9 = .ok (.ifCond .le 15, 3) := by decide +kernel
theorem d_W_digitsOf_12 : decode prog_4_method_7_code 12 = .ok (.iinc 1 1, 3) := by decide +kernel
theorem d_W_digitsOf_15 : decode prog_4_method_7_code 15 = .ok (.iload_n 2, 1) := by decide +kernel
theorem d_W_digitsOf_16 : decode prog_4_method_7_code 16 = .ok (.sipush 128, 3) := by decide +kernel
theorem d_W_digitsOf_19 : decode prog_4_method_7_code 19 = .ok (.idiv, 1) := by decide +kernel
theorem d_W_digitsOf_20 : decode prog_4_method_7_code 20 = .ok (.istore_n 2, 1) := by decide +kernel
theorem d_W_digitsOf_21 : decode prog_4_method_7_code 21 = .ok (.goto (-13), 3) := by decide +kernel
theorem d_W_digitsOf_24 : decode prog_4_method_7_code 24 = .ok (.iload_n 1, 1) := by decide +kernel
theorem d_W_digitsOf_25 : decode prog_4_method_7_code 25 = .ok (.ireturn, 1) := by decide +kernel
theorem d_W_pieceOf_0 : decode prog_4_method_2_code 0 = .ok (.aload_n 0, 1) := by decide +kernel
theorem d_W_pieceOf_1 : decode prog_4_method_2_code 1 = .ok (.aload_n 1, 1) := by decide +kernel
theorem d_W_pieceOf_2 : decode prog_4_method_2_code 2 = .ok (.aload_n 2, 1) := by decide +kernel
theorem d_W_pieceOf_3 : decode prog_4_method_2_code 3 = .ok (.invokevirtual 19, 3) := by decide +kernel
theorem d_W_pieceOf_6 : decode prog_4_method_2_code 6 = .ok (.aload_n 0, 1) := by decide +kernel
theorem d_W_pieceOf_7 : decode prog_4_method_2_code 7 = .ok (.getfield 15, 3) := by decide +kernel
theorem d_W_pieceOf_10 : decode prog_4_method_2_code 10 = .ok (.iconst 2, 1) := by decide +kernel
theorem d_W_pieceOf_11 : decode prog_4_method_2_code 11 = .ok (.aload_n 1, 1) := by decide +kernel
theorem d_W_pieceOf_12 : decode prog_4_method_2_code 12 = .ok (.getfield 23, 3) := by decide +kernel
theorem d_W_pieceOf_15 : decode prog_4_method_2_code 15 = .ok (.imul, 1) := by decide +kernel
theorem d_W_pieceOf_16 : decode prog_4_method_2_code 16 = .ok (.invokestatic 26, 3) := by decide +kernel
theorem d_W_pieceOf_19 : decode prog_4_method_2_code 19 = .ok (.aload_n 1, 1) := by decide +kernel
theorem d_W_pieceOf_20 : decode prog_4_method_2_code 20 = .ok (.getfield 23, 3) := by decide +kernel
theorem d_W_pieceOf_23 : decode prog_4_method_2_code 23 = .ok (.iadd, 1) := by decide +kernel
theorem d_W_pieceOf_24 : decode prog_4_method_2_code 24 = .ok (.if_icmp .le 18, 3) := by decide +kernel
theorem d_W_pieceOf_27 : decode prog_4_method_2_code 27 = .ok (.aload_n 0, 1) := by decide +kernel
theorem d_W_pieceOf_28 : decode prog_4_method_2_code 28 = .ok (.iconst 0, 1) := by decide +kernel
theorem d_W_pieceOf_29 : decode prog_4_method_2_code 29 = .ok (.putfield 15, 3) := by decide +kernel
theorem d_W_pieceOf_32 : decode prog_4_method_2_code 32 = .ok (.aload_n 0, 1) := by decide +kernel
theorem d_W_pieceOf_33 : decode prog_4_method_2_code 33 = .ok (.aload_n 1, 1) := by decide +kernel
theorem d_W_pieceOf_34 : decode prog_4_method_2_code 34 = .ok (.iconst 0, 1) := by decide +kernel
theorem d_W_pieceOf_35 : decode prog_4_method_2_code 35 = .ok (.aload_n 1, 1) := by decide +kernel
theorem d_W_pieceOf_36 : decode prog_4_method_2_code 36 = .ok (.getfield 23, 3) := by decide +kernel
theorem d_W_pieceOf_39 : decode prog_4_method_2_code 39 = .ok (.invokevirtual 30, 3) := by decide +kernel
theorem d_W_pieceOf_42 : decode prog_4_method_2_code 42 = .ok (.aload_n 0, 1) := by decide +kernel
theorem d_W_pieceOf_43 : decode prog_4_method_2_code 43 = .ok (.getfield 9, 3) := by decide +kernel
theorem d_W_pieceOf_46 : decode prog_4_method_2_code 46 = .ok (.aload_n 0, 1) := by decide +kernel
theorem d_W_pieceOf_47 : decode prog_4_method_2_code 47 = .ok (.getfield 15, 3) := by decide +kernel
theorem d_W_pieceOf_50 : decode prog_4_method_2_code 50 = .ok (.invokestatic 34, 3) := by decide +kernel
theorem d_W_pieceOf_53 : decode prog_4_method_2_code 53 = .ok (.areturn, 1) := by decide +kernel
theorem d_W_placeOfLongest_0 : decode prog_4_method_4_code 0 = .ok (.iconst 0, 1) := by decide +kernel
theorem d_W_placeOfLongest_1 : decode prog_4_method_4_code 1 = .ok (.istore_n 3, 1) := by decide +kernel
theorem d_W_placeOfLongest_2 : decode prog_4_method_4_code 2 = .ok (.iconst 0, 1) := by decide +kernel
theorem d_W_placeOfLongest_3 : decode prog_4_method_4_code 3 = .ok (.istore 4, 2) := by decide +kernel
theorem d_W_placeOfLongest_5 : decode prog_4_method_4_code 5 = .ok (.iconst 0, 1) := by decide +kernel
theorem d_W_placeOfLongest_6 : decode prog_4_method_4_code 6 = .ok (.istore 5, 2) := by decide +kernel
theorem d_W_placeOfLongest_8 : decode prog_4_method_4_code 8 = .ok (.iload 5, 2) := by decide +kernel
theorem d_W_placeOfLongest_10 : decode prog_4_method_4_code 10 = .ok (.aload_n 2, 1) := by decide +kernel
theorem d_W_placeOfLongest_11 : decode prog_4_method_4_code 11 = .ok (.getfield 23, 3) := by decide +kernel
theorem d_W_placeOfLongest_14 : decode prog_4_method_4_code 14 = .ok (.if_icmp .ge 32, 3) := by decide +kernel
theorem d_W_placeOfLongest_17 : decode prog_4_method_4_code 17 = .ok (.aload_n 0, 1) := by decide +kernel
theorem d_W_placeOfLongest_18 : decode prog_4_method_4_code 18 = .ok (.iload_n 1, 1) := by decide +kernel
theorem d_W_placeOfLongest_19 : decode prog_4_method_4_code 19 = .ok (.aload_n 2, 1) := by decide +kernel
theorem d_W_placeOfLongest_20 : decode prog_4_method_4_code 20 = .ok (.iload 5, 2) := by decide +kernel
theorem d_W_placeOfLongest_22 : decode prog_4_method_4_code 22 = .ok (.invokevirtual 44, 3) := by decide +kernel
theorem d_W_placeOfLongest_25 : decode prog_4_method_4_code 25 = .ok (.istore 6, 2) := by decide +kernel
theorem d_W_placeOfLongest_27 : decode prog_4_method_4_code 27 = .ok (.iload 6, 2) := by decide +kernel
theorem d_W_placeOfLongest_29 : decode prog_4_method_4_code 29 = .ok (.iload_n 3, 1) := by decide +kernel
theorem d_W_placeOfLongest_30 : decode prog_4_method_4_code 30 = .ok (.if_icmp .le 10, 3) := by decide +kernel
theorem d_W_placeOfLongest_33 : decode prog_4_method_4_code 33 = .ok (.iload 6, 2) := by decide +kernel
theorem d_W_placeOfLongest_35 : decode prog_4_method_4_code 35 = .ok (.istore_n 3, 1) := by decide +kernel
theorem d_W_placeOfLongest_36 : decode prog_4_method_4_code 36 = .ok (.iload 5, 2) := by decide +kernel
theorem d_W_placeOfLongest_38 : decode prog_4_method_4_code 38 = .ok (.istore 4, 2) := by decide +kernel
theorem d_W_placeOfLongest_40 : decode prog_4_method_4_code 40 = .ok (.iinc 5 1, 3) := by decide +kernel
theorem d_W_placeOfLongest_43 : decode prog_4_method_4_code 43 = .ok (.goto (-35), 3) := by decide +kernel
theorem d_W_placeOfLongest_46 : decode prog_4_method_4_code 46 = .ok (.iload 4, 2) := by decide +kernel
theorem d_W_placeOfLongest_48 : decode prog_4_method_4_code 48 = .ok (.ireturn, 1) := by decide +kernel
theorem d_W_writeByte_0 : decode prog_4_method_8_code 0 = .ok (.aload_n 0, 1) := by decide +kernel
theorem d_W_writeByte_1 : decode prog_4_method_8_code 1 = .ok (.getfield 15, 3) := by decide +kernel
theorem d_W_writeByte_4 : decode prog_4_method_8_code 4 = .ok (.aload_n 0, 1) := by decide +kernel
theorem d_W_writeByte_5 : decode prog_4_method_8_code 5 = .ok (.getfield 9, 3) := by decide +kernel
theorem d_W_writeByte_8 : decode prog_4_method_8_code 8 = .ok (.arraylength, 1) := by decide +kernel
theorem d_W_writeByte_9 : decode prog_4_method_8_code 9 = .ok (.if_icmp .ge 24, 3) := by decide +kernel
theorem d_W_writeByte_12 : decode prog_4_method_8_code 12 = .ok (.aload_n 0, 1) := by decide +kernel
theorem d_W_writeByte_13 : decode prog_4_method_8_code 13 = .ok (.getfield 9, 3) := by decide +kernel
theorem d_W_writeByte_16 : decode prog_4_method_8_code 16 = .ok (.aload_n 0, 1) := by decide +kernel
theorem d_W_writeByte_17 : decode prog_4_method_8_code 17 = .ok (.getfield 15, 3) := by decide +kernel
theorem d_W_writeByte_20 : decode prog_4_method_8_code 20 = .ok (.iload_n 1, 1) := by decide +kernel
theorem d_W_writeByte_21 : decode prog_4_method_8_code 21 = .ok (.i2b, 1) := by decide +kernel
theorem d_W_writeByte_22 : decode prog_4_method_8_code 22 = .ok (.bastore, 1) := by decide +kernel
theorem d_W_writeByte_23 : decode prog_4_method_8_code 23 = .ok (.aload_n 0, 1) := by decide +kernel
theorem d_W_writeByte_24 : decode prog_4_method_8_code 24 = .ok (.dup, 1) := by decide +kernel
theorem d_W_writeByte_25 : decode prog_4_method_8_code 25 = .ok (.getfield 15, 3) := by decide +kernel
theorem d_W_writeByte_28 : decode prog_4_method_8_code 28 = .ok (.iconst 1, 1) := by decide +kernel
theorem d_W_writeByte_29 : decode prog_4_method_8_code 29 = .ok (.iadd, 1) := by decide +kernel
theorem d_W_writeByte_30 : decode prog_4_method_8_code 30 = .ok (.putfield 15, 3) := by decide +kernel
theorem d_W_writeByte_33 : decode prog_4_method_8_code 33 = .ok (.return_, 1) := by decide +kernel
theorem d_W_writeDifferences_0 : decode prog_4_method_3_code 0 = .ok (.aload_n 0, 1) := by decide +kernel
theorem d_W_writeDifferences_1 : decode prog_4_method_3_code 1 = .ok (.iconst 0, 1) := by decide +kernel
theorem d_W_writeDifferences_2 : decode prog_4_method_3_code 2 = .ok (.putfield 15, 3) := by decide +kernel
theorem d_W_writeDifferences_5 : decode prog_4_method_3_code 5 = .ok (.iconst 0, 1) := by decide +kernel
theorem d_W_writeDifferences_6 : decode prog_4_method_3_code 6 = .ok (.istore_n 3, 1) := by decide +kernel
theorem d_W_writeDifferences_7 : decode prog_4_method_3_code 7 = .ok (.iconst 0, 1) := by decide +kernel
theorem d_W_writeDifferences_8 : decode prog_4_method_3_code 8 = .ok (.istore 4, 2) := by decide +kernel
theorem d_W_writeDifferences_10 : decode prog_4_method_3_code 10 = .ok (.iload 4, 2) := by decide +kernel
theorem d_W_writeDifferences_12 : decode prog_4_method_3_code 12 = .ok (.aload_n 1, 1) := by decide +kernel
theorem d_W_writeDifferences_13 : decode prog_4_method_3_code 13 = .ok (.getfield 23, 3) := by decide +kernel
theorem d_W_writeDifferences_16 : decode prog_4_method_3_code 16 = .ok (.if_icmp .ge 72, 3) := by decide +kernel
theorem d_W_writeDifferences_19 : decode prog_4_method_3_code 19 = .ok (.aload_n 1, 1) := by decide +kernel
theorem d_W_writeDifferences_20 : decode prog_4_method_3_code 20 = .ok (.iload 4, 2) := by decide +kernel
theorem d_W_writeDifferences_22 : decode prog_4_method_3_code 22 = .ok (.aload_n 2, 1) := by decide +kernel
theorem d_W_writeDifferences_23 : decode prog_4_method_3_code 23 = .ok (.invokestatic 40, 3) := by decide +kernel
theorem d_W_writeDifferences_26 : decode prog_4_method_3_code 26 = .ok (.istore 5, 2) := by decide +kernel
theorem d_W_writeDifferences_28 : decode prog_4_method_3_code 28 = .ok (.aload_n 1, 1) := by decide +kernel
theorem d_W_writeDifferences_29 : decode prog_4_method_3_code 29 = .ok (.iload 4, 2) := by decide +kernel
theorem d_W_writeDifferences_31 : decode prog_4_method_3_code 31 = .ok (.aload_n 2, 1) := by decide +kernel
theorem d_W_writeDifferences_32 : decode prog_4_method_3_code 32 = .ok (.iload 5, 2) := by decide +kernel
theorem d_W_writeDifferences_34 : decode prog_4_method_3_code 34 = .ok (.invokevirtual 44, 3) := by decide +kernel
theorem d_W_writeDifferences_37 : decode prog_4_method_3_code 37 = .ok (.istore 6, 2) := by decide +kernel
theorem d_W_writeDifferences_39 : decode prog_4_method_3_code 39 = .ok (.iload 6, 2) := by decide +kernel
theorem d_W_writeDifferences_41 : decode prog_4_method_3_code 41 = .ok (.iconst 4, 1) := by decide +kernel
theorem d_W_writeDifferences_42 : decode prog_4_method_3_code 42 = .ok (.if_icmp .lt 40, 3) := by decide +kernel
theorem d_W_writeDifferences_45 : decode prog_4_method_3_code 45 = .ok (.aload_n 0, 1) := by decide +kernel
theorem d_W_writeDifferences_46 : decode prog_4_method_3_code 46 = .ok (.aload_n 1, 1) := by decide +kernel
theorem d_W_writeDifferences_47 : decode prog_4_method_3_code 47 = .ok (.iload_n 3, 1) := by decide +kernel
theorem d_W_writeDifferences_48 : decode prog_4_method_3_code 48 = .ok (.iload 4, 2) := by decide +kernel
theorem d_W_writeDifferences_50 : decode prog_4_method_3_code 50 = .ok (.invokevirtual 30, 3) := by decide +kernel
theorem d_W_writeDifferences_53 : decode prog_4_method_3_code 53 = .ok (.aload_n 0, 1) := by decide +kernel
theorem d_W_writeDifferences_54 : decode prog_4_method_3_code 54 = .ok (.iconst 2, 1) := by decide +kernel
theorem d_W_writeDifferences_55 : decode prog_4_method_3_code 55 = .ok (.iload 6, 2) := by decide +kernel
theorem d_W_writeDifferences_57 : decode prog_4_method_3_code 57 = .ok (.imul, 1) := by decide +kernel
theorem d_W_writeDifferences_58 : decode prog_4_method_3_code 58 = .ok (.iconst 1, 1) := by decide +kernel
theorem d_W_writeDifferences_59 : decode prog_4_method_3_code 59 = .ok (.iadd, 1) := by decide +kernel
theorem d_W_writeDifferences_60 : decode prog_4_method_3_code 60 = .ok (.invokevirtual 48, 3) := by decide +kernel
theorem d_W_writeDifferences_63 : decode prog_4_method_3_code 63 = .ok (.aload_n 0, 1) := by decide +kernel
theorem d_W_writeDifferences_64 : decode prog_4_method_3_code 64 = .ok (.iload 5, 2) := by decide +kernel
theorem d_W_writeDifferences_66 : decode prog_4_method_3_code 66 = .ok (.invokevirtual 48, 3) := by decide +kernel
theorem d_W_writeDifferences_69 : decode prog_4_method_3_code 69 = .ok (.iload 4, 2) := by decide +kernel
theorem d_W_writeDifferences_71 : decode prog_4_method_3_code 71 = .ok (.iload 6, 2) := by decide +kernel
theorem d_W_writeDifferences_73 : decode prog_4_method_3_code 73 = .ok (.iadd, 1) := by decide +kernel
theorem d_W_writeDifferences_74 : decode prog_4_method_3_code 74 = .ok (.istore 4, 2) := by decide +kernel
theorem d_W_writeDifferences_76 : decode prog_4_method_3_code 76 = .ok (.iload 4, 2) := by decide +kernel
theorem d_W_writeDifferences_78 : decode prog_4_method_3_code 78 = .ok (.istore_n 3, 1) := by decide +kernel
theorem d_W_writeDifferences_79 : decode prog_4_method_3_code 79 = .ok (.goto 6, 3) := by decide +kernel
theorem d_W_writeDifferences_82 : decode prog_4_method_3_code 82 = .ok (.iinc 4 1, 3) := by decide +kernel
theorem d_W_writeDifferences_85 : decode prog_4_method_3_code 85 = .ok (.goto (-75), 3) := by decide +kernel
theorem d_W_writeDifferences_88 : decode prog_4_method_3_code 88 = .ok (.aload_n 0, 1) := by decide +kernel
theorem d_W_writeDifferences_89 : decode prog_4_method_3_code 89 = .ok (.aload_n 1, 1) := by decide +kernel
theorem d_W_writeDifferences_90 : decode prog_4_method_3_code 90 = .ok (.iload_n 3, 1) := by decide +kernel
theorem d_W_writeDifferences_91 : decode prog_4_method_3_code 91 = .ok (.aload_n 1, 1) := by decide +kernel
theorem d_W_writeDifferences_92 : decode prog_4_method_3_code 92 = .ok (.getfield 23, 3) := by decide +kernel
theorem d_W_writeDifferences_95 : decode prog_4_method_3_code 95 = .ok (.invokevirtual 30, 3) := by decide +kernel
theorem d_W_writeDifferences_98 : decode prog_4_method_3_code 98 = .ok (.return_, 1) := by decide +kernel
theorem d_W_writeInsert_0 : decode prog_4_method_5_code 0 = .ok (.iload_n 2, 1) := by decide +kernel
theorem d_W_writeInsert_1 : decode prog_4_method_5_code 1 = .ok (.iload_n 3, 1) := by decide +kernel
theorem d_W_writeInsert_2 : decode prog_4_method_5_code 2 = .ok (.if_icmp .lt 4, 3) := by decide +kernel
theorem d_W_writeInsert_5 : decode prog_4_method_5_code 5 = .ok (.return_, 1) := by decide +kernel
theorem d_W_writeInsert_6 : decode prog_4_method_5_code 6 = .ok (.aload_n 0, 1) := by decide +kernel
theorem d_W_writeInsert_7 : decode prog_4_method_5_code 7 = .ok (.iconst 2, 1) := by decide +kernel
theorem d_W_writeInsert_8 : decode prog_4_method_5_code 8 = .ok (.iload_n 3, 1) := by decide +kernel
theorem d_W_writeInsert_9 : decode prog_4_method_5_code 9 = .ok (.iload_n 2, 1) := by decide +kernel
theorem d_W_writeInsert_10 : decode prog_4_method_5_code 10 = .ok (.isub, 1) := by decide +kernel
theorem d_W_writeInsert_11 : decode prog_4_method_5_code 11 = .ok (.imul, 1) := by decide +kernel
theorem d_W_writeInsert_12 : decode prog_4_method_5_code 12 = .ok (.invokevirtual 48, 3) := by decide +kernel
theorem d_W_writeInsert_15 : decode prog_4_method_5_code 15 = .ok (.iload_n 2, 1) := by decide +kernel
theorem d_W_writeInsert_16 : decode prog_4_method_5_code 16 = .ok (.istore 4, 2) := by decide +kernel
theorem d_W_writeInsert_18 : decode prog_4_method_5_code 18 = .ok (.iload 4, 2) := by decide +kernel
theorem d_W_writeInsert_20 : decode prog_4_method_5_code 20 = .ok (.iload_n 3, 1) := by decide +kernel
theorem d_W_writeInsert_21 : decode prog_4_method_5_code 21 = .ok (.if_icmp .ge 19, 3) := by decide +kernel
theorem d_W_writeInsert_24 : decode prog_4_method_5_code 24 = .ok (.aload_n 0, 1) := by decide +kernel
theorem d_W_writeInsert_25 : decode prog_4_method_5_code 25 = .ok (.aload_n 1, 1) := by decide +kernel
theorem d_W_writeInsert_26 : decode prog_4_method_5_code 26 = .ok (.iload 4, 2) := by decide +kernel
theorem d_W_writeInsert_28 : decode prog_4_method_5_code 28 = .ok (.invokevirtual 52, 3) := by decide +kernel
theorem d_W_writeInsert_31 : decode prog_4_method_5_code 31 = .ok (.invokevirtual 55, 3) := by decide +kernel
theorem d_W_writeInsert_34 : decode prog_4_method_5_code 34 = .ok (.iinc 4 1, 3) := by decide +kernel
theorem d_W_writeInsert_37 : decode prog_4_method_5_code 37 = .ok (.goto (-19), 3) := by decide +kernel
theorem d_W_writeInsert_40 : decode prog_4_method_5_code 40 = .ok (.return_, 1) := by decide +kernel
theorem d_W_writeNumber_0 : decode prog_4_method_6_code 0 = .ok (.iload_n 1, 1) := by decide +kernel
theorem d_W_writeNumber_1 : decode prog_4_method_6_code 1 = .ok (.istore_n 2, 1) := by decide +kernel
theorem d_W_writeNumber_2 : decode prog_4_method_6_code 2 = .ok (.iload_n 1, 1) := by decide +kernel
theorem d_W_writeNumber_3 : decode prog_4_method_6_code 3 = .ok (.invokestatic 26, 3) := by decide +kernel
theorem d_W_writeNumber_6 : decode prog_4_method_6_code 6 = .ok (.istore_n 3, 1) := by decide +kernel
theorem d_W_writeNumber_7 : decode prog_4_method_6_code 7 = .ok (.iload_n 3, 1) := by decide +kernel
theorem d_W_writeNumber_8 : decode prog_4_method_6_code 8 = .ok (.iconst 1, 1) := by decide +kernel
theorem d_W_writeNumber_9 : decode prog_4_method_6_code 9 = .ok (.if_icmp .le 28, 3) := by decide +kernel
theorem d_W_writeNumber_12 : decode prog_4_method_6_code 12 = .ok (.aload_n 0, 1) := by decide +kernel
theorem d_W_writeNumber_13 : decode prog_4_method_6_code 13 = .ok (.iload_n 2, 1) := by decide +kernel
theorem d_W_writeNumber_14 : decode prog_4_method_6_code 14 = .ok (.sipush 128, 3) := by decide +kernel
theorem d_W_writeNumber_17 : decode prog_4_method_6_code 17 = .ok (.irem, 1) := by decide +kernel
theorem d_W_writeNumber_18 : decode prog_4_method_6_code 18 = .ok (.sipush 128, 3) := by decide +kernel
theorem d_W_writeNumber_21 : decode prog_4_method_6_code 21 = .ok (.iadd, 1) := by decide +kernel
theorem d_W_writeNumber_22 : decode prog_4_method_6_code 22 = .ok (.invokevirtual 55, 3) := by decide +kernel
theorem d_W_writeNumber_25 : decode prog_4_method_6_code 25 = .ok (.iload_n 2, 1) := by decide +kernel
theorem d_W_writeNumber_26 : decode prog_4_method_6_code 26 = .ok (.sipush 128, 3) := by decide +kernel
theorem d_W_writeNumber_29 : decode prog_4_method_6_code 29 = .ok (.idiv, 1) := by decide +kernel
theorem d_W_writeNumber_30 : decode prog_4_method_6_code 30 = .ok (.istore_n 2, 1) := by decide +kernel
theorem d_W_writeNumber_31 : decode prog_4_method_6_code 31 = .ok (.iinc 3 (-1), 3) := by decide +kernel
theorem d_W_writeNumber_34 : decode prog_4_method_6_code 34 = .ok (.goto (-27), 3) := by decide +kernel
theorem d_W_writeNumber_37 : decode prog_4_method_6_code 37 = .ok (.aload_n 0, 1) := by decide +kernel
theorem d_W_writeNumber_38 : decode prog_4_method_6_code 38 = .ok (.iload_n 2, 1) := by decide +kernel
theorem d_W_writeNumber_39 : decode prog_4_method_6_code 39 = .ok (.invokevirtual 55, 3) := by decide +kernel
theorem d_W_writeNumber_42 : decode prog_4_method_6_code 42 = .ok (.return_, 1) := by decide +kernel
theorem d_P_init_0 : decode prog_5_method_1_code 0 = .ok (.aload_n 0, 1) := by decide +kernel
theorem d_P_init_1 : decode prog_5_method_1_code 1 = .ok (.invokespecial 1, 3) := by decide +kernel
theorem d_P_init_4 : decode prog_5_method_1_code 4 = .ok (.aload_n 0, 1) := by decide +kernel
theorem d_P_init_5 : decode prog_5_method_1_code 5 = .ok (.iconst 0, 1) := by decide +kernel
theorem d_P_init_6 : decode prog_5_method_1_code 6 = .ok (.putfield 7, 3) := by decide +kernel
theorem d_P_init_9 : decode prog_5_method_1_code 9 = .ok (.aload_n 0, 1) := by decide +kernel
theorem d_P_init_10 : decode prog_5_method_1_code 10 = .ok (.iconst 0, 1) := by decide +kernel
theorem d_P_init_11 : decode prog_5_method_1_code 11 = .ok (.putfield 13, 3) := by decide +kernel
theorem d_P_init_14 : decode prog_5_method_1_code 14 = .ok (.aload_n 0, 1) := by decide +kernel
theorem d_P_init_15 : decode prog_5_method_1_code 15 = .ok (.iconst 0, 1) := by decide +kernel
theorem d_P_init_16 : decode prog_5_method_1_code 16 = .ok (.putfield 16, 3) := by decide +kernel
theorem d_P_init_19 : decode prog_5_method_1_code 19 = .ok (.return_, 1) := by decide +kernel
theorem d_P_comeBack_0 : decode prog_5_method_3_code 0 = .ok (.aload_n 0, 1) := by decide +kernel
theorem d_P_comeBack_1 : decode prog_5_method_3_code 1 = .ok (.iconst 0, 1) := by decide +kernel
theorem d_P_comeBack_2 : decode prog_5_method_3_code 2 = .ok (.putfield 7, 3) := by decide +kernel
theorem d_P_comeBack_5 : decode prog_5_method_3_code 5 = .ok (.aload_n 0, 1) := by decide +kernel
theorem d_P_comeBack_6 : decode prog_5_method_3_code 6 = .ok (.iconst 0, 1) := by decide +kernel
theorem d_P_comeBack_7 : decode prog_5_method_3_code 7 = .ok (.putfield 13, 3) := by decide +kernel
theorem d_P_comeBack_10 : decode prog_5_method_3_code 10 = .ok (.return_, 1) := by decide +kernel
theorem d_P_goAfter_0 : decode prog_5_method_2_code 0 = .ok (.aload_n 0, 1) := by decide +kernel
theorem d_P_goAfter_1 : decode prog_5_method_2_code 1 = .ok (.iconst 1, 1) := by decide +kernel
theorem d_P_goAfter_2 : decode prog_5_method_2_code 2 = .ok (.putfield 13, 3) := by decide +kernel
theorem d_P_goAfter_5 : decode prog_5_method_2_code 5 = .ok (.aload_n 0, 1) := by decide +kernel
theorem d_P_goAfter_6 : decode prog_5_method_2_code 6 = .ok (.iload_n 1, 1) := by decide +kernel
theorem d_P_goAfter_7 : decode prog_5_method_2_code 7 = .ok (.putfield 16, 3) := by decide +kernel
theorem d_P_goAfter_10 : decode prog_5_method_2_code 10 = .ok (.return_, 1) := by decide +kernel
theorem d_P_lastsFor_0 : decode prog_5_method_4_code 0 = .ok (.aload_n 0, 1) := by decide +kernel
theorem d_P_lastsFor_1 : decode prog_5_method_4_code 1 = .ok (.getfield 13, 3) := by decide +kernel
theorem d_P_lastsFor_4 : decode prog_5_method_4_code 4 = .ok (.ifCond .ne 5, 3) := by decide +kernel
theorem d_P_lastsFor_7 : decode prog_5_method_4_code 7 = .ok (.iconst 1, 1) := by decide +kernel
theorem d_P_lastsFor_8 : decode prog_5_method_4_code 8 = .ok (.ireturn, 1) := by decide +kernel
theorem d_P_lastsFor_9 : decode prog_5_method_4_code 9 = .ok (.aload_n 0, 1) := by decide +kernel
theorem d_P_lastsFor_10 : decode prog_5_method_4_code 10 = .ok (.getfield 16, 3) := by decide +kernel
theorem d_P_lastsFor_13 : decode prog_5_method_4_code 13 = .ok (.iload_n 1, 1) := by decide +kernel
theorem d_P_lastsFor_14 : decode prog_5_method_4_code 14 = .ok (.if_icmp .ge 10, 3) := by decide +kernel
theorem d_P_lastsFor_17 : decode prog_5_method_4_code 17 = .ok (.aload_n 0, 1) := by decide +kernel
theorem d_P_lastsFor_18 : decode prog_5_method_4_code 18 = .ok (.iconst 1, 1) := by decide +kernel
theorem d_P_lastsFor_19 : decode prog_5_method_4_code 19 = .ok (.putfield 7, 3) := by decide +kernel
theorem d_P_lastsFor_22 : decode prog_5_method_4_code 22 = .ok (.iconst 0, 1) := by decide +kernel
theorem d_P_lastsFor_23 : decode prog_5_method_4_code 23 = .ok (.ireturn, 1) := by decide +kernel
theorem d_P_lastsFor_24 : decode prog_5_method_4_code 24 = .ok (.aload_n 0, 1) := by decide +kernel
theorem d_P_lastsFor_25 : decode prog_5_method_4_code 25 = .ok (.dup, 1) := by decide +kernel
theorem d_P_lastsFor_26 : decode prog_5_method_4_code 26 = .ok (.getfield 16, 3) := by decide +kernel
theorem d_P_lastsFor_29 : decode prog_5_method_4_code 29 = .ok (.iload_n 1, 1) := by decide +kernel
theorem d_P_lastsFor_30 : decode prog_5_method_4_code 30 = .ok (.isub, 1) := by decide +kernel
theorem d_P_lastsFor_31 : decode prog_5_method_4_code 31 = .ok (.putfield 16, 3) := by decide +kernel
theorem d_P_lastsFor_34 : decode prog_5_method_4_code 34 = .ok (.iconst 1, 1) := by decide +kernel
theorem d_P_lastsFor_35 : decode prog_5_method_4_code 35 = .ok (.ireturn, 1) := by decide +kernel
theorem d_V_init_0 : decode prog_6_method_1_code 0 = .ok (.aload_n 0, 1) := by decide +kernel
theorem d_V_init_1 : decode prog_6_method_1_code 1 = .ok (.invokespecial 1, 3) := by decide +kernel
theorem d_V_init_4 : decode prog_6_method_1_code 4 = .ok (.aload_n 0, 1) := by decide +kernel
theorem d_V_init_5 : decode prog_6_method_1_code 5 = .ok (.aload_n 1, 1) := by decide +kernel
theorem d_V_init_6 : decode prog_6_method_1_code 6 = .ok (.putfield 7, 3) := by decide +kernel
theorem d_V_init_9 : decode prog_6_method_1_code 9 = .ok (.aload_n 0, 1) := by decide +kernel
theorem d_V_init_10 : decode prog_6_method_1_code 10 = .ok (.iload_n 2, 1) := by decide +kernel
theorem d_V_init_11 : decode prog_6_method_1_code 11 = .ok (.putfield 13, 3) := by decide +kernel
theorem d_V_init_14 : decode prog_6_method_1_code 14 = .ok (.aload_n 0, 1) := by decide +kernel
theorem d_V_init_15 : decode prog_6_method_1_code 15 = .ok (.iload_n 3, 1) := by decide +kernel
theorem d_V_init_16 : decode prog_6_method_1_code 16 = .ok (.putfield 17, 3) := by decide +kernel
theorem d_V_init_19 : decode prog_6_method_1_code 19 = .ok (.return_, 1) := by decide +kernel
theorem d_V_hasByte_0 : decode prog_6_method_2_code 0 = .ok (.iload_n 1, 1) := by decide +kernel
theorem d_V_hasByte_1 : decode prog_6_method_2_code 1 = .ok (.ifCond .lt 16, 3) := by decide +kernel
theorem d_V_hasByte_4 : decode prog_6_method_2_code 4 = .ok (.iload_n 1, 1) := by decide +kernel
theorem d_V_hasByte_5 : decode prog_6_method_2_code 5 = .ok (.aload_n 0, 1) := by decide +kernel
theorem d_V_hasByte_6 : decode prog_6_method_2_code 6 = .ok (.getfield 7, 3) := by decide +kernel
theorem d_V_hasByte_9 : decode prog_6_method_2_code 9 = .ok (.arraylength, 1) := by decide +kernel
theorem d_V_hasByte_10 : decode prog_6_method_2_code 10 = .ok (.if_icmp .ge 7, 3) := by decide +kernel
theorem d_V_hasByte_13 : decode prog_6_method_2_code 13 = .ok (.iconst 1, 1) := by decide +kernel
theorem d_V_hasByte_14 : decode prog_6_method_2_code 14 = .ok (.goto 4, 3) := by decide +kernel
theorem d_V_hasByte_17 : decode prog_6_method_2_code 17 = .ok (.iconst 0, 1) := by decide +kernel
theorem d_V_hasByte_18 : decode prog_6_method_2_code 18 = .ok (.ireturn, 1) := by decide +kernel
theorem d_T_init_0 : decode prog_7_method_1_code 0 = .ok (.aload_n 0, 1) := by decide +kernel
theorem d_T_init_1 : decode prog_7_method_1_code 1 = .ok (.invokespecial 3, 3) := by decide +kernel
theorem d_T_init_4 : decode prog_7_method_1_code 4 = .ok (.aload_n 0, 1) := by decide +kernel
theorem d_T_init_5 : decode prog_7_method_1_code 5 = .ok (.sipush 256, 3) := by decide +kernel
theorem d_T_init_8 : decode prog_7_method_1_code 8 = .ok (.newarray .byte, 2) := by decide +kernel
theorem d_T_init_10 : decode prog_7_method_1_code 10 = .ok (.putfield 9, 3) := by decide +kernel
theorem d_T_init_13 : decode prog_7_method_1_code 13 = .ok (.aload_n 0, 1) := by decide +kernel
theorem d_T_init_14 : decode prog_7_method_1_code 14 = .ok (.iconst 0, 1) := by decide +kernel
theorem d_T_init_15 : decode prog_7_method_1_code 15 = .ok (.putfield 15, 3) := by decide +kernel
theorem d_T_init_18 : decode prog_7_method_1_code 18 = .ok (.return_, 1) := by decide +kernel
theorem d_T_addByte_0 : decode prog_7_method_4_code 0 = .ok (.aload_n 0, 1) := by decide +kernel
theorem d_T_addByte_1 : decode prog_7_method_4_code 1 = .ok (.getfield 15, 3) := by decide +kernel
theorem d_T_addByte_4 : decode prog_7_method_4_code 4 = .ok (.sipush 256, 3) := by decide +kernel
theorem d_T_addByte_7 : decode prog_7_method_4_code 7 = .ok (.if_icmp .ge 24, 3) := by decide +kernel
theorem d_T_addByte_10 : decode prog_7_method_4_code 10 = .ok (.aload_n 0, 1) := by decide +kernel
theorem d_T_addByte_11 : decode prog_7_method_4_code 11 = .ok (.getfield 9, 3) := by decide +kernel
theorem d_T_addByte_14 : decode prog_7_method_4_code 14 = .ok (.aload_n 0, 1) := by decide +kernel
theorem d_T_addByte_15 : decode prog_7_method_4_code 15 = .ok (.getfield 15, 3) := by decide +kernel
theorem d_T_addByte_18 : decode prog_7_method_4_code 18 = .ok (.iload_n 1, 1) := by decide +kernel
theorem d_T_addByte_19 : decode prog_7_method_4_code 19 = .ok (.i2b, 1) := by decide +kernel
theorem d_T_addByte_20 : decode prog_7_method_4_code 20 = .ok (.bastore, 1) := by decide +kernel
theorem d_T_addByte_21 : decode prog_7_method_4_code 21 = .ok (.aload_n 0, 1) := by decide +kernel
theorem d_T_addByte_22 : decode prog_7_method_4_code 22 = .ok (.dup, 1) := by decide +kernel
theorem d_T_addByte_23 : decode prog_7_method_4_code 23 = .ok (.getfield 15, 3) := by decide +kernel
theorem d_T_addByte_26 : decode prog_7_method_4_code 26 = .ok (.iconst 1, 1) := by decide +kernel
theorem d_T_addByte_27 : decode prog_7_method_4_code 27 = .ok (.iadd, 1) := by decide +kernel
theorem d_T_addByte_28 : decode prog_7_method_4_code 28 = .ok (.putfield 15, 3) := by decide +kernel
theorem d_T_addByte_31 : decode prog_7_method_4_code 31 = .ok (.return_, 1) := by decide +kernel
theorem d_T_addInt_0 : decode prog_7_method_5_code 0 = .ok (.bipush 24, 2) := by decide +kernel
theorem d_T_addInt_2 : decode prog_7_method_5_code 2 = .ok (.istore_n 2, 1) := by decide +kernel
theorem d_T_addInt_3 : decode prog_7_method_5_code 3 = .ok (.iload_n 2, 1) := by decide +kernel
theorem d_T_addInt_4 : decode prog_7_method_5_code 4 = .ok (.ifCond .lt 16, 3) := by decide +kernel
theorem d_T_addInt_7 : decode prog_7_method_5_code 7 = .ok (.aload_n 0, 1) := by decide +kernel
theorem d_T_addInt_8 : decode prog_7_method_5_code 8 = .ok (.iload_n 1, 1) := by decide +kernel
theorem d_T_addInt_9 : decode prog_7_method_5_code 9 = .ok (.iload_n 2, 1) := by decide +kernel
theorem d_T_addInt_10 : decode prog_7_method_5_code 10 = .ok (.ishr, 1) := by decide +kernel
theorem d_T_addInt_11 : decode prog_7_method_5_code 11 = .ok (.invokevirtual 19, 3) := by decide +kernel
theorem d_T_addInt_14 : decode prog_7_method_5_code 14 = .ok (.iinc 2 (-8), 3) := by decide +kernel
theorem d_T_addInt_17 : decode prog_7_method_5_code 17 = .ok (.goto (-14), 3) := by decide +kernel
theorem d_T_addInt_20 : decode prog_7_method_5_code 20 = .ok (.return_, 1) := by decide +kernel
theorem d_T_become_0 : decode prog_7_method_7_code 0 = .ok (.aload_n 1, 1) := by decide +kernel
theorem d_T_become_1 : decode prog_7_method_7_code 1 = .ok (.getfield 9, 3) := by decide +kernel
theorem d_T_become_4 : decode prog_7_method_7_code 4 = .ok (.iconst 0, 1) := by decide +kernel
theorem d_T_become_5 : decode prog_7_method_7_code 5 = .ok (.aload_n 0, 1) := by decide +kernel
theorem d_T_become_6 : decode prog_7_method_7_code 6 = .ok (.getfield 9, 3) := by decide +kernel
theorem d_T_become_9 : decode prog_7_method_7_code 9 = .ok (.iconst 0, 1) := by decide +kernel
theorem d_T_become_10 : decode prog_7_method_7_code 10 = .ok (.aload_n 1, 1) := by decide +kernel
theorem d_T_become_11 : decode prog_7_method_7_code 11 = .ok (.getfield 15, 3) := by decide +kernel
theorem d_T_become_14 : decode prog_7_method_7_code 14 = .ok (.invokestatic 23, 3) := by decide +kernel
theorem d_T_become_17 : decode prog_7_method_7_code 17 = .ok (.aload_n 0, 1) := by decide +kernel
theorem d_T_become_18 : decode prog_7_method_7_code 18 = .ok (.aload_n 1, 1) := by decide +kernel
theorem d_T_become_19 : decode prog_7_method_7_code 19 = .ok (.getfield 15, 3) := by decide +kernel
theorem d_T_become_22 : decode prog_7_method_7_code 22 = .ok (.putfield 15, 3) := by decide +kernel
theorem d_T_become_25 : decode prog_7_method_7_code 25 = .ok (.return_, 1) := by decide +kernel
theorem d_T_byteAt_0 : decode prog_7_method_2_code 0 = .ok (.iload_n 1, 1) := by decide +kernel
theorem d_T_byteAt_1 : decode prog_7_method_2_code 1 = .ok (.ifCond .lt 24, 3) := by decide +kernel
theorem d_T_byteAt_4 : decode prog_7_method_2_code 4 = .ok (.iload_n 1, 1) := by decide +kernel
theorem d_T_byteAt_5 : decode prog_7_method_2_code 5 = .ok (.aload_n 0, 1) := by decide +kernel
theorem d_T_byteAt_6 : decode prog_7_method_2_code 6 = .ok (.getfield 15, 3) := by decide +kernel
theorem d_T_byteAt_9 : decode prog_7_method_2_code 9 = .ok (.if_icmp .ge 16, 3) := by decide +kernel
theorem d_T_byteAt_12 : decode prog_7_method_2_code 12 = .ok (.aload_n 0, 1) := by decide +kernel
theorem d_T_byteAt_13 : decode prog_7_method_2_code 13 = .ok (.getfield 9, 3) := by decide +kernel
theorem d_T_byteAt_16 : decode prog_7_method_2_code 16 = .ok (.iload_n 1, 1) := by decide +kernel
theorem d_T_byteAt_17 : decode prog_7_method_2_code 17 = .ok (.baload, 1) := by decide +kernel
theorem d_T_byteAt_18 : decode prog_7_method_2_code 18 = .ok (.sipush 255, 3) := by decide +kernel
theorem d_T_byteAt_21 : decode prog_7_method_2_code 21 = .ok (.iand, 1) := by decide +kernel
theorem d_T_byteAt_22 : decode prog_7_method_2_code 22 = .ok (.goto 4, 3) := by decide +kernel
theorem d_T_byteAt_25 : decode prog_7_method_2_code 25 = .ok (.iconst (-1), 1) := by decide +kernel
theorem d_T_byteAt_26 : decode prog_7_method_2_code 26 = .ok (.ireturn, 1) := by decide +kernel
theorem d_T_hasRoom_0 : decode prog_7_method_3_code 0 = .ok (.iload_n 1, 1) := by decide +kernel
theorem d_T_hasRoom_1 : decode prog_7_method_3_code 1 = .ok (.sipush 256, 3) := by decide +kernel
theorem d_T_hasRoom_4 : decode prog_7_method_3_code 4 = .ok (.aload_n 0, 1) := by decide +kernel
theorem d_T_hasRoom_5 : decode prog_7_method_3_code 5 = .ok (.getfield 15, 3) := by decide +kernel
theorem d_T_hasRoom_8 : decode prog_7_method_3_code 8 = .ok (.isub, 1) := by decide +kernel
theorem d_T_hasRoom_9 : decode prog_7_method_3_code 9 = .ok (.if_icmp .gt 7, 3) := by decide +kernel
theorem d_T_hasRoom_12 : decode prog_7_method_3_code 12 = .ok (.iconst 1, 1) := by decide +kernel
theorem d_T_hasRoom_13 : decode prog_7_method_3_code 13 = .ok (.goto 4, 3) := by decide +kernel
theorem d_T_hasRoom_16 : decode prog_7_method_3_code 16 = .ok (.iconst 0, 1) := by decide +kernel
theorem d_T_hasRoom_17 : decode prog_7_method_3_code 17 = .ok (.ireturn, 1) := by decide +kernel
theorem d_T_runBackWith_0 : decode prog_7_method_10_code 0 = .ok (.aload_n 0, 1) := by decide +kernel
theorem d_T_runBackWith_1 : decode prog_7_method_10_code 1 = .ok (.getfield 15, 3) := by decide +kernel
theorem d_T_runBackWith_4 : decode prog_7_method_10_code 4 = .ok (.aload_n 1, 1) := by decide +kernel
theorem d_T_runBackWith_5 : decode prog_7_method_10_code 5 = .ok (.getfield 15, 3) := by decide +kernel
theorem d_T_runBackWith_8 : decode prog_7_method_10_code 8 = .ok (.invokestatic 29, 3) := by decide +kernel
theorem d_T_runBackWith_11 : decode prog_7_method_10_code 11 = .ok (.iload_n 2, 1) := by decide +kernel
theorem d_T_runBackWith_12 : decode prog_7_method_10_code 12 = .ok (.isub, 1) := by decide +kernel
theorem d_T_runBackWith_13 : decode prog_7_method_10_code 13 = .ok (.istore_n 3, 1) := by decide +kernel
theorem d_T_runBackWith_14 : decode prog_7_method_10_code 14 = .ok (.iconst 0, 1) := by decide +kernel
theorem d_T_runBackWith_15 : decode prog_7_method_10_code 15 = .ok (.istore 4, 2) := by decide +kernel
theorem d_T_runBackWith_17 : decode prog_7_method_10_code 17 = .ok (.iload 4, 2) := by decide +kernel
theorem d_T_runBackWith_19 : decode prog_7_method_10_code 19 = .ok (.iload_n 3, 1) := by decide +kernel
theorem d_T_runBackWith_20 : decode prog_7_method_10_code 20 = .ok (.if_icmp .ge 40, 3) := by decide +kernel
theorem d_T_runBackWith_23 : decode prog_7_method_10_code 23 = .ok (.aload_n 0, 1) := by decide +kernel
theorem d_T_runBackWith_24 : decode prog_7_method_10_code 24 = .ok (.getfield 9, 3) := by decide +kernel
theorem d_T_runBackWith_27 : decode prog_7_method_10_code 27 = .ok (.aload_n 0, 1) := by decide +kernel
theorem d_T_runBackWith_28 : decode prog_7_method_10_code 28 = .ok (.getfield 15, 3) := by decide +kernel
theorem d_T_runBackWith_31 : decode prog_7_method_10_code 31 = .ok (.iconst 1, 1) := by decide +kernel
theorem d_T_runBackWith_32 : decode prog_7_method_10_code 32 = .ok (.isub, 1) := by decide +kernel
theorem d_T_runBackWith_33 : decode prog_7_method_10_code 33 = .ok (.iload 4, 2) := by decide +kernel
theorem d_T_runBackWith_35 : decode prog_7_method_10_code 35 = .ok (.isub, 1) := by decide +kernel
theorem d_T_runBackWith_36 : decode prog_7_method_10_code 36 = .ok (.baload, 1) := by decide +kernel
theorem d_T_runBackWith_37 : decode prog_7_method_10_code 37 = .ok (.aload_n 1, 1) := by decide +kernel
theorem d_T_runBackWith_38 : decode prog_7_method_10_code 38 = .ok (.getfield 9, 3) := by decide +kernel
theorem d_T_runBackWith_41 : decode prog_7_method_10_code 41 = .ok (.aload_n 1, 1) := by decide +kernel
theorem d_T_runBackWith_42 : decode prog_7_method_10_code 42 = .ok (.getfield 15, 3) := by decide +kernel
theorem d_T_runBackWith_45 : decode prog_7_method_10_code 45 = .ok (.iconst 1, 1) := by decide +kernel
theorem d_T_runBackWith_46 : decode prog_7_method_10_code 46 = .ok (.isub, 1) := by decide +kernel
theorem d_T_runBackWith_47 : decode prog_7_method_10_code 47 = .ok (.iload 4, 2) := by decide +kernel
theorem d_T_runBackWith_49 : decode prog_7_method_10_code 49 = .ok (.isub, 1) := by decide +kernel
theorem d_T_runBackWith_50 : decode prog_7_method_10_code 50 = .ok (.baload, 1) := by decide +kernel
theorem d_T_runBackWith_51 : decode prog_7_method_10_code 51 = .ok (.if_icmp .ne 9, 3) := by decide +kernel
theorem d_T_runBackWith_54 : decode prog_7_method_10_code 54 = .ok (.iinc 4 1, 3) := by decide +kernel
theorem d_T_runBackWith_57 : decode prog_7_method_10_code 57 = .ok (.goto (-40), 3) := by decide +kernel
theorem d_T_runBackWith_60 : decode prog_7_method_10_code 60 = .ok (.iload 4, 2) := by decide +kernel
theorem d_T_runBackWith_62 : decode prog_7_method_10_code 62 = .ok (.ireturn, 1) := by decide +kernel
theorem d_T_runWith_0 : decode prog_7_method_9_code 0 = .ok (.aload_n 0, 1) := by decide +kernel
theorem d_T_runWith_1 : decode prog_7_method_9_code 1 = .ok (.getfield 15, 3) := by decide +kernel
theorem d_T_runWith_4 : decode prog_7_method_9_code 4 = .ok (.iload_n 1, 1) := by decide +kernel
theorem d_T_runWith_5 : decode prog_7_method_9_code 5 = .ok (.isub, 1) := by decide +kernel
theorem d_T_runWith_6 : decode prog_7_method_9_code 6 = .ok (.aload_n 2, 1) := by decide +kernel
theorem d_T_runWith_7 : decode prog_7_method_9_code 7 = .ok (.getfield 15, 3) := by decide +kernel
theorem d_T_runWith_10 : decode prog_7_method_9_code 10 = .ok (.iload_n 3, 1) := by decide +kernel
theorem d_T_runWith_11 : decode prog_7_method_9_code 11 = .ok (.isub, 1) := by decide +kernel
theorem d_T_runWith_12 : decode prog_7_method_9_code 12 = .ok (.invokestatic 29, 3) := by decide +kernel
theorem d_T_runWith_15 : decode prog_7_method_9_code 15 = .ok (.istore 4, 2) := by decide +kernel
theorem d_T_runWith_17 : decode prog_7_method_9_code 17 = .ok (.iconst 0, 1) := by decide +kernel
theorem d_T_runWith_18 : decode prog_7_method_9_code 18 = .ok (.istore 5, 2) := by decide +kernel
theorem d_T_runWith_20 : decode prog_7_method_9_code 20 = .ok (.iload 5, 2) := by decide +kernel
theorem d_T_runWith_22 : decode prog_7_method_9_code 22 = .ok (.iload 4, 2) := by decide +kernel
theorem d_T_runWith_24 : decode prog_7_method_9_code 24 = .ok (.if_icmp .ge 30, 3) := by decide +kernel
theorem d_T_runWith_27 : decode prog_7_method_9_code 27 = .ok (.aload_n 0, 1) := by decide +kernel
theorem d_T_runWith_28 : decode prog_7_method_9_code 28 = .ok (.getfield 9, 3) := by decide +kernel
theorem d_T_runWith_31 : decode prog_7_method_9_code 31 = .ok (.iload_n 1, 1) := by decide +kernel
theorem d_T_runWith_32 : decode prog_7_method_9_code 32 = .ok (.iload 5, 2) := by decide +kernel
theorem d_T_runWith_34 : decode prog_7_method_9_code 34 = .ok (.iadd, 1) := by decide +kernel
theorem d_T_runWith_35 : decode prog_7_method_9_code 35 = .ok (.baload, 1) := by decide +kernel
theorem d_T_runWith_36 : decode prog_7_method_9_code 36 = .ok (.aload_n 2, 1) := by decide +kernel
theorem d_T_runWith_37 : decode prog_7_method_9_code 37 = .ok (.getfield 9, 3) := by decide +kernel
theorem d_T_runWith_40 : decode prog_7_method_9_code 40 = .ok (.iload_n 3, 1) := by decide +kernel
theorem d_T_runWith_41 : decode prog_7_method_9_code 41 = .ok (.iload 5, 2) := by decide +kernel
theorem d_T_runWith_43 : decode prog_7_method_9_code 43 = .ok (.iadd, 1) := by decide +kernel
theorem d_T_runWith_44 : decode prog_7_method_9_code 44 = .ok (.baload, 1) := by decide +kernel
theorem d_T_runWith_45 : decode prog_7_method_9_code 45 = .ok (.if_icmp .ne 9, 3) := by decide +kernel
theorem d_T_runWith_48 : decode prog_7_method_9_code 48 = .ok (.iinc 5 1, 3) := by decide +kernel
theorem d_T_runWith_51 : decode prog_7_method_9_code 51 = .ok (.goto (-31), 3) := by decide +kernel
theorem d_T_runWith_54 : decode prog_7_method_9_code 54 = .ok (.iload 5, 2) := by decide +kernel
theorem d_T_runWith_56 : decode prog_7_method_9_code 56 = .ok (.ireturn, 1) := by decide +kernel
theorem d_T_shorten_0 : decode prog_7_method_6_code 0 = .ok (.iload_n 1, 1) := by decide +kernel
theorem d_T_shorten_1 : decode prog_7_method_6_code 1 = .ok (.ifCond .lt 11, 3) := by decide +kernel
theorem d_T_shorten_4 : decode prog_7_method_6_code 4 = .ok (.iload_n 1, 1) := by decide +kernel
theorem d_T_shorten_5 : decode prog_7_method_6_code 5 = .ok (.aload_n 0, 1) := by decide +kernel
theorem d_T_shorten_6 : decode prog_7_method_6_code 6 = .ok (.getfield 15, 3) := by decide +kernel
theorem d_T_shorten_9 : decode prog_7_method_6_code 9 = .ok (.if_icmp .le 5, 3) := by decide +kernel
theorem d_T_shorten_12 : decode prog_7_method_6_code 12 = .ok (.iconst 0, 1) := by decide +kernel
theorem d_T_shorten_13 : decode prog_7_method_6_code 13 = .ok (.ireturn, 1) := by decide +kernel
theorem d_T_shorten_14 : decode prog_7_method_6_code 14 = .ok (.aload_n 0, 1) := by decide +kernel
theorem d_T_shorten_15 : decode prog_7_method_6_code 15 = .ok (.iload_n 1, 1) := by decide +kernel
theorem d_T_shorten_16 : decode prog_7_method_6_code 16 = .ok (.putfield 15, 3) := by decide +kernel
theorem d_T_shorten_19 : decode prog_7_method_6_code 19 = .ok (.iconst 1, 1) := by decide +kernel
theorem d_T_shorten_20 : decode prog_7_method_6_code 20 = .ok (.ireturn, 1) := by decide +kernel
theorem d_T_sum_0 : decode prog_7_method_8_code 0 = .ok (.iconst 0, 1) := by decide +kernel
theorem d_T_sum_1 : decode prog_7_method_8_code 1 = .ok (.istore_n 1, 1) := by decide +kernel
theorem d_T_sum_2 : decode prog_7_method_8_code 2 = .ok (.iconst 0, 1) := by decide +kernel
theorem d_T_sum_3 : decode prog_7_method_8_code 3 = .ok (.istore_n 2, 1) := by decide +kernel
theorem d_T_sum_4 : decode prog_7_method_8_code 4 = .ok (.iload_n 2, 1) := by decide +kernel
theorem d_T_sum_5 : decode prog_7_method_8_code 5 = .ok (.aload_n 0, 1) := by decide +kernel
theorem d_T_sum_6 : decode prog_7_method_8_code 6 = .ok (.getfield 15, 3) := by decide +kernel
theorem d_T_sum_9 : decode prog_7_method_8_code 9 = .ok (.if_icmp .ge 27, 3) := by decide +kernel
theorem d_T_sum_12 : decode prog_7_method_8_code 12 = .ok (.iload_n 1, 1) := by decide +kernel
theorem d_T_sum_13 : decode prog_7_method_8_code 13 = .ok (.bipush 31, 2) := by decide +kernel
theorem d_T_sum_15 : decode prog_7_method_8_code 15 = .ok (.imul, 1) := by decide +kernel
theorem d_T_sum_16 : decode prog_7_method_8_code 16 = .ok (.aload_n 0, 1) := by decide +kernel
theorem d_T_sum_17 : decode prog_7_method_8_code 17 = .ok (.getfield 9, 3) := by decide +kernel
theorem d_T_sum_20 : decode prog_7_method_8_code 20 = .ok (.iload_n 2, 1) := by decide +kernel
theorem d_T_sum_21 : decode prog_7_method_8_code 21 = .ok (.baload, 1) := by decide +kernel
theorem d_T_sum_22 : decode prog_7_method_8_code 22 = .ok (.sipush 255, 3) := by decide +kernel
theorem d_T_sum_25 : decode prog_7_method_8_code 25 = .ok (.iand, 1) := by decide +kernel
theorem d_T_sum_26 : decode prog_7_method_8_code 26 = .ok (.iadd, 1) := by decide +kernel
theorem d_T_sum_27 : decode prog_7_method_8_code 27 = .ok (.iconst 1, 1) := by decide +kernel
theorem d_T_sum_28 : decode prog_7_method_8_code 28 = .ok (.iadd, 1) := by decide +kernel
theorem d_T_sum_29 : decode prog_7_method_8_code 29 = .ok (.istore_n 1, 1) := by decide +kernel
theorem d_T_sum_30 : decode prog_7_method_8_code 30 = .ok (.iinc 2 1, 3) := by decide +kernel
theorem d_T_sum_33 : decode prog_7_method_8_code 33 = .ok (.goto (-29), 3) := by decide +kernel
theorem d_T_sum_36 : decode prog_7_method_8_code 36 = .ok (.iload_n 1, 1) := by decide +kernel
theorem d_T_sum_37 : decode prog_7_method_8_code 37 = .ok (.ireturn, 1) := by decide +kernel
theorem d_L_about_0 : decode method_12_code 0 = .ok (.aload_n 3, 1) := by decide +kernel
theorem d_L_about_1 : decode method_12_code 1 = .ok (.iconst 0, 1) := by decide +kernel
theorem d_L_about_2 : decode method_12_code 2 = .ok (.aload_n 0, 1) := by decide +kernel
theorem d_L_about_3 : decode method_12_code 3 = .ok (.iload_n 1, 1) := by decide +kernel
theorem d_L_about_4 : decode method_12_code 4 = .ok (.iload_n 2, 1) := by decide +kernel
theorem d_L_about_5 : decode method_12_code 5 = .ok (.invokevirtual 44, 3) := by decide +kernel
theorem d_L_about_8 : decode method_12_code 8 = .ok (.i2l, 1) := by decide +kernel
theorem d_L_about_9 : decode method_12_code 9 = .ok (.lastore, 1) := by decide +kernel
theorem d_L_about_10 : decode method_12_code 10 = .ok (.goto 15, 3) := by decide +kernel
theorem d_L_about_13 : decode method_12_code 13 = .ok (.astore 4, 2) := by decide +kernel
theorem d_L_about_15 : decode method_12_code 15 = .ok (.iconst 1, 1) := by decide +kernel
theorem d_L_about_16 : decode method_12_code 16 = .ok (.ireturn, 1) := by decide +kernel
theorem d_L_about_17 : decode method_12_code 17 = .ok (.astore 4, 2) := by decide +kernel
theorem d_L_about_19 : decode method_12_code 19 = .ok (.iconst 2, 1) := by decide +kernel
theorem d_L_about_20 : decode method_12_code 20 = .ok (.ireturn, 1) := by decide +kernel
theorem d_L_about_21 : decode method_12_code 21 = .ok (.astore 4, 2) := by decide +kernel
theorem d_L_about_23 : decode method_12_code 23 = .ok (.iconst 3, 1) := by decide +kernel
theorem d_L_about_24 : decode method_12_code 24 = .ok (.ireturn, 1) := by decide +kernel
theorem d_L_about_25 : decode method_12_code 25 = .ok (.iconst 0, 1) := by decide +kernel
theorem d_L_about_26 : decode method_12_code 26 = .ok (.ireturn, 1) := by decide +kernel
theorem d_L_commit_0 : decode method_6_code 0 = .ok (.aload_n 3, 1) := by decide +kernel
theorem d_L_commit_1 : decode method_6_code 1 = .ok (.iconst 0, 1) := by decide +kernel
theorem d_L_commit_2 : decode method_6_code 2 = .ok (.aload_n 0, 1) := by decide +kernel
theorem d_L_commit_3 : decode method_6_code 3 = .ok (.iload_n 1, 1) := by decide +kernel
theorem d_L_commit_4 : decode method_6_code 4 = .ok (.iload_n 2, 1) := by decide +kernel
theorem d_L_commit_5 : decode method_6_code 5 = .ok (.invokevirtual 23, 3) := by decide +kernel
theorem d_L_commit_8 : decode method_6_code 8 = .ok (.i2l, 1) := by decide +kernel
theorem d_L_commit_9 : decode method_6_code 9 = .ok (.lastore, 1) := by decide +kernel
theorem d_L_commit_10 : decode method_6_code 10 = .ok (.goto 7, 3) := by decide +kernel
theorem d_L_commit_13 : decode method_6_code 13 = .ok (.astore 4, 2) := by decide +kernel
theorem d_L_commit_15 : decode method_6_code 15 = .ok (.iconst 1, 1) := by decide +kernel
theorem d_L_commit_16 : decode method_6_code 16 = .ok (.ireturn, 1) := by decide +kernel
theorem d_L_commit_17 : decode method_6_code 17 = .ok (.iconst 0, 1) := by decide +kernel
theorem d_L_commit_18 : decode method_6_code 18 = .ok (.ireturn, 1) := by decide +kernel
theorem d_L_common_0 : decode method_17_code 0 = .ok (.aload 5, 2) := by decide +kernel
theorem d_L_common_2 : decode method_17_code 2 = .ok (.iconst 0, 1) := by decide +kernel
theorem d_L_common_3 : decode method_17_code 3 = .ok (.aload_n 0, 1) := by decide +kernel
theorem d_L_common_4 : decode method_17_code 4 = .ok (.iload_n 1, 1) := by decide +kernel
theorem d_L_common_5 : decode method_17_code 5 = .ok (.iload_n 2, 1) := by decide +kernel
theorem d_L_common_6 : decode method_17_code 6 = .ok (.iload_n 3, 1) := by decide +kernel
theorem d_L_common_7 : decode method_17_code 7 = .ok (.iload 4, 2) := by decide +kernel
theorem d_L_common_9 : decode method_17_code 9 = .ok (.invokevirtual 65, 3) := by decide +kernel
theorem d_L_common_12 : decode method_17_code 12 = .ok (.i2l, 1) := by decide +kernel
theorem d_L_common_13 : decode method_17_code 13 = .ok (.lastore, 1) := by decide +kernel
theorem d_L_common_14 : decode method_17_code 14 = .ok (.goto 7, 3) := by decide +kernel
theorem d_L_common_17 : decode method_17_code 17 = .ok (.astore 6, 2) := by decide +kernel
theorem d_L_common_19 : decode method_17_code 19 = .ok (.iconst 1, 1) := by decide +kernel
theorem d_L_common_20 : decode method_17_code 20 = .ok (.ireturn, 1) := by decide +kernel
theorem d_L_common_21 : decode method_17_code 21 = .ok (.iconst 0, 1) := by decide +kernel
theorem d_L_common_22 : decode method_17_code 22 = .ok (.ireturn, 1) := by decide +kernel
theorem d_L_cutAfter_0 : decode method_19_code 0 = .ok (.aload_n 2, 1) := by decide +kernel
theorem d_L_cutAfter_1 : decode method_19_code 1 = .ok (.iconst 0, 1) := by decide +kernel
theorem d_L_cutAfter_2 : decode method_19_code 2 = .ok (.aload_n 0, 1) := by decide +kernel
theorem d_L_cutAfter_3 : decode method_19_code 3 = .ok (.iload_n 1, 1) := by decide +kernel
theorem d_L_cutAfter_4 : decode method_19_code 4 = .ok (.invokevirtual 72, 3) := by decide +kernel
theorem d_L_cutAfter_7 : decode method_19_code 7 = .ok (.ifCond .eq 7, 3) := by decide +kernel
theorem d_L_cutAfter_10 : decode method_19_code 10 = .ok (.lconst 1, 1) := by decide +kernel
theorem d_L_cutAfter_11 : decode method_19_code 11 = .ok (.goto 4, 3) := by decide +kernel
theorem d_L_cutAfter_14 : decode method_19_code 14 = .ok (.lconst 0, 1) := by decide +kernel
theorem d_L_cutAfter_15 : decode method_19_code 15 = .ok (.lastore, 1) := by decide +kernel
theorem d_L_cutAfter_16 : decode method_19_code 16 = .ok (.goto 6, 3) := by decide +kernel
theorem d_L_cutAfter_19 : decode method_19_code 19 = .ok (.astore_n 3, 1) := by decide +kernel
theorem d_L_cutAfter_20 : decode method_19_code 20 = .ok (.iconst 1, 1) := by decide +kernel
theorem d_L_cutAfter_21 : decode method_19_code 21 = .ok (.ireturn, 1) := by decide +kernel
theorem d_L_cutAfter_22 : decode method_19_code 22 = .ok (.iconst 0, 1) := by decide +kernel
theorem d_L_cutAfter_23 : decode method_19_code 23 = .ok (.ireturn, 1) := by decide +kernel
theorem d_L_damage_0 : decode method_15_code 0 = .ok (.aload 5, 2) := by decide +kernel
theorem d_L_damage_2 : decode method_15_code 2 = .ok (.iconst 0, 1) := by decide +kernel
theorem d_L_damage_3 : decode method_15_code 3 = .ok (.aload_n 0, 1) := by decide +kernel
theorem d_L_damage_4 : decode method_15_code 4 = .ok (.iload_n 1, 1) := by decide +kernel
theorem d_L_damage_5 : decode method_15_code 5 = .ok (.iload_n 2, 1) := by decide +kernel
theorem d_L_damage_6 : decode method_15_code 6 = .ok (.iload_n 3, 1) := by decide +kernel
theorem d_L_damage_7 : decode method_15_code 7 = .ok (.iload 4, 2) := by decide +kernel
theorem d_L_damage_9 : decode method_15_code 9 = .ok (.invokevirtual 58, 3) := by decide +kernel
theorem d_L_damage_12 : decode method_15_code 12 = .ok (.ifCond .eq 7, 3) := by decide +kernel
theorem d_L_damage_15 : decode method_15_code 15 = .ok (.lconst 1, 1) := by decide +kernel
theorem d_L_damage_16 : decode method_15_code 16 = .ok (.goto 4, 3) := by decide +kernel
theorem d_L_damage_19 : decode method_15_code 19 = .ok (.lconst 0, 1) := by decide +kernel
theorem d_L_damage_20 : decode method_15_code 20 = .ok (.lastore, 1) := by decide +kernel
theorem d_L_damage_21 : decode method_15_code 21 = .ok (.goto 7, 3) := by decide +kernel
theorem d_L_damage_24 : decode method_15_code 24 = .ok (.astore 6, 2) := by decide +kernel
theorem d_L_damage_26 : decode method_15_code 26 = .ok (.iconst 1, 1) := by decide +kernel
theorem d_L_damage_27 : decode method_15_code 27 = .ok (.ireturn, 1) := by decide +kernel
theorem d_L_damage_28 : decode method_15_code 28 = .ok (.iconst 0, 1) := by decide +kernel
theorem d_L_damage_29 : decode method_15_code 29 = .ok (.ireturn, 1) := by decide +kernel
theorem d_L_dropDocument_0 : decode method_11_code 0 = .ok (.aload_n 2, 1) := by decide +kernel
theorem d_L_dropDocument_1 : decode method_11_code 1 = .ok (.iconst 0, 1) := by decide +kernel
theorem d_L_dropDocument_2 : decode method_11_code 2 = .ok (.aload_n 0, 1) := by decide +kernel
theorem d_L_dropDocument_3 : decode method_11_code 3 = .ok (.iload_n 1, 1) := by decide +kernel
theorem d_L_dropDocument_4 : decode method_11_code 4 = .ok (.invokevirtual 41, 3) := by decide +kernel
theorem d_L_dropDocument_7 : decode method_11_code 7 = .ok (.ifCond .eq 7, 3) := by decide +kernel
theorem d_L_dropDocument_10 : decode method_11_code 10 = .ok (.lconst 1, 1) := by decide +kernel
theorem d_L_dropDocument_11 : decode method_11_code 11 = .ok (.goto 4, 3) := by decide +kernel
theorem d_L_dropDocument_14 : decode method_11_code 14 = .ok (.lconst 0, 1) := by decide +kernel
theorem d_L_dropDocument_15 : decode method_11_code 15 = .ok (.lastore, 1) := by decide +kernel
theorem d_L_dropDocument_16 : decode method_11_code 16 = .ok (.goto 6, 3) := by decide +kernel
theorem d_L_dropDocument_19 : decode method_11_code 19 = .ok (.astore_n 3, 1) := by decide +kernel
theorem d_L_dropDocument_20 : decode method_11_code 20 = .ok (.iconst 1, 1) := by decide +kernel
theorem d_L_dropDocument_21 : decode method_11_code 21 = .ok (.ireturn, 1) := by decide +kernel
theorem d_L_dropDocument_22 : decode method_11_code 22 = .ok (.iconst 0, 1) := by decide +kernel
theorem d_L_dropDocument_23 : decode method_11_code 23 = .ok (.ireturn, 1) := by decide +kernel
theorem d_L_end_0 : decode method_4_code 0 = .ok (.aload_n 2, 1) := by decide +kernel
theorem d_L_end_1 : decode method_4_code 1 = .ok (.iconst 0, 1) := by decide +kernel
theorem d_L_end_2 : decode method_4_code 2 = .ok (.aload_n 0, 1) := by decide +kernel
theorem d_L_end_3 : decode method_4_code 3 = .ok (.iload_n 1, 1) := by decide +kernel
theorem d_L_end_4 : decode method_4_code 4 = .ok (.invokevirtual 15, 3) := by decide +kernel
theorem d_L_end_7 : decode method_4_code 7 = .ok (.ifCond .eq 7, 3) := by decide +kernel
theorem d_L_end_10 : decode method_4_code 10 = .ok (.lconst 1, 1) := by decide +kernel
theorem d_L_end_11 : decode method_4_code 11 = .ok (.goto 4, 3) := by decide +kernel
theorem d_L_end_14 : decode method_4_code 14 = .ok (.lconst 0, 1) := by decide +kernel
theorem d_L_end_15 : decode method_4_code 15 = .ok (.lastore, 1) := by decide +kernel
theorem d_L_end_16 : decode method_4_code 16 = .ok (.goto 6, 3) := by decide +kernel
theorem d_L_end_19 : decode method_4_code 19 = .ok (.astore_n 3, 1) := by decide +kernel
theorem d_L_end_20 : decode method_4_code 20 = .ok (.iconst 1, 1) := by decide +kernel
theorem d_L_end_21 : decode method_4_code 21 = .ok (.ireturn, 1) := by decide +kernel
theorem d_L_end_22 : decode method_4_code 22 = .ok (.iconst 0, 1) := by decide +kernel
theorem d_L_end_23 : decode method_4_code 23 = .ok (.ireturn, 1) := by decide +kernel
theorem d_L_feed_0 : decode method_3_code 0 = .ok (.aload 6, 2) := by decide +kernel
theorem d_L_feed_2 : decode method_3_code 2 = .ok (.iconst 0, 1) := by decide +kernel
theorem d_L_feed_3 : decode method_3_code 3 = .ok (.aload_n 0, 1) := by decide +kernel
theorem d_L_feed_4 : decode method_3_code 4 = .ok (.iload_n 1, 1) := by decide +kernel
theorem d_L_feed_5 : decode method_3_code 5 = .ok (.iload_n 2, 1) := by decide +kernel
theorem d_L_feed_6 : decode method_3_code 6 = .ok (.iload_n 3, 1) := by decide +kernel
theorem d_L_feed_7 : decode method_3_code 7 = .ok (.iload 4, 2) := by decide +kernel
theorem d_L_feed_9 : decode method_3_code 9 = .ok (.iload 5, 2) := by decide +kernel
theorem d_L_feed_11 : decode method_3_code 11 = .ok (.invokevirtual 7, 3) := by decide +kernel
theorem d_L_feed_14 : decode method_3_code 14 = .ok (.ifCond .eq 7, 3) := by decide +kernel
theorem d_L_feed_17 : decode method_3_code 17 = .ok (.lconst 1, 1) := by decide +kernel
theorem d_L_feed_18 : decode method_3_code 18 = .ok (.goto 4, 3) := by decide +kernel
theorem d_L_feed_21 : decode method_3_code 21 = .ok (.lconst 0, 1) := by decide +kernel
theorem d_L_feed_22 : decode method_3_code 22 = .ok (.lastore, 1) := by decide +kernel
theorem d_L_feed_23 : decode method_3_code 23 = .ok (.goto 7, 3) := by decide +kernel
theorem d_L_feed_26 : decode method_3_code 26 = .ok (.astore 7, 2) := by decide +kernel
theorem d_L_feed_28 : decode method_3_code 28 = .ok (.iconst 1, 1) := by decide +kernel
theorem d_L_feed_29 : decode method_3_code 29 = .ok (.ireturn, 1) := by decide +kernel
theorem d_L_feed_30 : decode method_3_code 30 = .ok (.iconst 0, 1) := by decide +kernel
theorem d_L_feed_31 : decode method_3_code 31 = .ok (.ireturn, 1) := by decide +kernel
theorem d_L_fetch_0 : decode method_7_code 0 = .ok (.aload_n 3, 1) := by decide +kernel
theorem d_L_fetch_1 : decode method_7_code 1 = .ok (.iconst 0, 1) := by decide +kernel
theorem d_L_fetch_2 : decode method_7_code 2 = .ok (.aload_n 0, 1) := by decide +kernel
theorem d_L_fetch_3 : decode method_7_code 3 = .ok (.iload_n 1, 1) := by decide +kernel
theorem d_L_fetch_4 : decode method_7_code 4 = .ok (.iload_n 2, 1) := by decide +kernel
theorem d_L_fetch_5 : decode method_7_code 5 = .ok (.invokevirtual 27, 3) := by decide +kernel
theorem d_L_fetch_8 : decode method_7_code 8 = .ok (.i2l, 1) := by decide +kernel
theorem d_L_fetch_9 : decode method_7_code 9 = .ok (.lastore, 1) := by decide +kernel
theorem d_L_fetch_10 : decode method_7_code 10 = .ok (.goto 7, 3) := by decide +kernel
theorem d_L_fetch_13 : decode method_7_code 13 = .ok (.astore 4, 2) := by decide +kernel
theorem d_L_fetch_15 : decode method_7_code 15 = .ok (.iconst 1, 1) := by decide +kernel
theorem d_L_fetch_16 : decode method_7_code 16 = .ok (.ireturn, 1) := by decide +kernel
theorem d_L_fetch_17 : decode method_7_code 17 = .ok (.iconst 0, 1) := by decide +kernel
theorem d_L_fetch_18 : decode method_7_code 18 = .ok (.ireturn, 1) := by decide +kernel
theorem d_L_freeBlocks_0 : decode method_18_code 0 = .ok (.aload_n 1, 1) := by decide +kernel
theorem d_L_freeBlocks_1 : decode method_18_code 1 = .ok (.iconst 0, 1) := by decide +kernel
theorem d_L_freeBlocks_2 : decode method_18_code 2 = .ok (.aload_n 0, 1) := by decide +kernel
theorem d_L_freeBlocks_3 : decode method_18_code 3 = .ok (.invokevirtual 69, 3) := by decide +kernel
theorem d_L_freeBlocks_6 : decode method_18_code 6 = .ok (.i2l, 1) := by decide +kernel
theorem d_L_freeBlocks_7 : decode method_18_code 7 = .ok (.lastore, 1) := by decide +kernel
theorem d_L_freeBlocks_8 : decode method_18_code 8 = .ok (.goto 6, 3) := by decide +kernel
theorem d_L_freeBlocks_11 : decode method_18_code 11 = .ok (.astore_n 2, 1) := by decide +kernel
theorem d_L_freeBlocks_12 : decode method_18_code 12 = .ok (.iconst 1, 1) := by decide +kernel
theorem d_L_freeBlocks_13 : decode method_18_code 13 = .ok (.ireturn, 1) := by decide +kernel
theorem d_L_freeBlocks_14 : decode method_18_code 14 = .ok (.iconst 0, 1) := by decide +kernel
theorem d_L_freeBlocks_15 : decode method_18_code 15 = .ok (.ireturn, 1) := by decide +kernel
theorem d_L_make_0 : decode method_5_code 0 = .ok (.aload_n 1, 1) := by decide +kernel
theorem d_L_make_1 : decode method_5_code 1 = .ok (.iconst 0, 1) := by decide +kernel
theorem d_L_make_2 : decode method_5_code 2 = .ok (.aload_n 0, 1) := by decide +kernel
theorem d_L_make_3 : decode method_5_code 3 = .ok (.invokevirtual 19, 3) := by decide +kernel
theorem d_L_make_6 : decode method_5_code 6 = .ok (.i2l, 1) := by decide +kernel
theorem d_L_make_7 : decode method_5_code 7 = .ok (.lastore, 1) := by decide +kernel
theorem d_L_make_8 : decode method_5_code 8 = .ok (.goto 6, 3) := by decide +kernel
theorem d_L_make_11 : decode method_5_code 11 = .ok (.astore_n 2, 1) := by decide +kernel
theorem d_L_make_12 : decode method_5_code 12 = .ok (.iconst 1, 1) := by decide +kernel
theorem d_L_make_13 : decode method_5_code 13 = .ok (.ireturn, 1) := by decide +kernel
theorem d_L_make_14 : decode method_5_code 14 = .ok (.iconst 0, 1) := by decide +kernel
theorem d_L_make_15 : decode method_5_code 15 = .ok (.ireturn, 1) := by decide +kernel
theorem d_L_out_0 : decode method_8_code 0 = .ok (.aload_n 2, 1) := by decide +kernel
theorem d_L_out_1 : decode method_8_code 1 = .ok (.iconst 0, 1) := by decide +kernel
theorem d_L_out_2 : decode method_8_code 2 = .ok (.aload_n 0, 1) := by decide +kernel
theorem d_L_out_3 : decode method_8_code 3 = .ok (.iload_n 1, 1) := by decide +kernel
theorem d_L_out_4 : decode method_8_code 4 = .ok (.invokevirtual 30, 3) := by decide +kernel
theorem d_L_out_7 : decode method_8_code 7 = .ok (.i2l, 1) := by decide +kernel
theorem d_L_out_8 : decode method_8_code 8 = .ok (.lastore, 1) := by decide +kernel
theorem d_L_out_9 : decode method_8_code 9 = .ok (.goto 6, 3) := by decide +kernel
theorem d_L_out_12 : decode method_8_code 12 = .ok (.astore_n 3, 1) := by decide +kernel
theorem d_L_out_13 : decode method_8_code 13 = .ok (.iconst 1, 1) := by decide +kernel
theorem d_L_out_14 : decode method_8_code 14 = .ok (.ireturn, 1) := by decide +kernel
theorem d_L_out_15 : decode method_8_code 15 = .ok (.iconst 0, 1) := by decide +kernel
theorem d_L_out_16 : decode method_8_code 16 = .ok (.ireturn, 1) := by decide +kernel
theorem d_L_pieceByte_0 : decode method_14_code 0 = .ok (.aload 4, 2) := by decide +kernel
theorem d_L_pieceByte_2 : decode method_14_code 2 = .ok (.iconst 0, 1) := by decide +kernel
theorem d_L_pieceByte_3 : decode method_14_code 3 = .ok (.aload_n 0, 1) := by decide +kernel
theorem d_L_pieceByte_4 : decode method_14_code 4 = .ok (.iload_n 1, 1) := by decide +kernel
theorem d_L_pieceByte_5 : decode method_14_code 5 = .ok (.iload_n 2, 1) := by decide +kernel
theorem d_L_pieceByte_6 : decode method_14_code 6 = .ok (.iload_n 3, 1) := by decide +kernel
theorem d_L_pieceByte_7 : decode method_14_code 7 = .ok (.invokevirtual 55, 3) := by decide +kernel
theorem d_L_pieceByte_10 : decode method_14_code 10 = .ok (.i2l, 1) := by decide +kernel
theorem d_L_pieceByte_11 : decode method_14_code 11 = .ok (.lastore, 1) := by decide +kernel
theorem d_L_pieceByte_12 : decode method_14_code 12 = .ok (.goto 7, 3) := by decide +kernel
theorem d_L_pieceByte_15 : decode method_14_code 15 = .ok (.astore 5, 2) := by decide +kernel
theorem d_L_pieceByte_17 : decode method_14_code 17 = .ok (.iconst 1, 1) := by decide +kernel
theorem d_L_pieceByte_18 : decode method_14_code 18 = .ok (.ireturn, 1) := by decide +kernel
theorem d_L_pieceByte_19 : decode method_14_code 19 = .ok (.iconst 0, 1) := by decide +kernel
theorem d_L_pieceByte_20 : decode method_14_code 20 = .ok (.ireturn, 1) := by decide +kernel
theorem d_L_revision_0 : decode method_13_code 0 = .ok (.aload 4, 2) := by decide +kernel
theorem d_L_revision_2 : decode method_13_code 2 = .ok (.iconst 0, 1) := by decide +kernel
theorem d_L_revision_3 : decode method_13_code 3 = .ok (.aload_n 0, 1) := by decide +kernel
theorem d_L_revision_4 : decode method_13_code 4 = .ok (.iload_n 1, 1) := by decide +kernel
theorem d_L_revision_5 : decode method_13_code 5 = .ok (.iload_n 2, 1) := by decide +kernel
theorem d_L_revision_6 : decode method_13_code 6 = .ok (.iload_n 3, 1) := by decide +kernel
theorem d_L_revision_7 : decode method_13_code 7 = .ok (.invokevirtual 51, 3) := by decide +kernel
theorem d_L_revision_10 : decode method_13_code 10 = .ok (.i2l, 1) := by decide +kernel
theorem d_L_revision_11 : decode method_13_code 11 = .ok (.lastore, 1) := by decide +kernel
theorem d_L_revision_12 : decode method_13_code 12 = .ok (.goto 15, 3) := by decide +kernel
theorem d_L_revision_15 : decode method_13_code 15 = .ok (.astore 5, 2) := by decide +kernel
theorem d_L_revision_17 : decode method_13_code 17 = .ok (.iconst 1, 1) := by decide +kernel
theorem d_L_revision_18 : decode method_13_code 18 = .ok (.ireturn, 1) := by decide +kernel
theorem d_L_revision_19 : decode method_13_code 19 = .ok (.astore 5, 2) := by decide +kernel
theorem d_L_revision_21 : decode method_13_code 21 = .ok (.iconst 2, 1) := by decide +kernel
theorem d_L_revision_22 : decode method_13_code 22 = .ok (.ireturn, 1) := by decide +kernel
theorem d_L_revision_23 : decode method_13_code 23 = .ok (.astore 5, 2) := by decide +kernel
theorem d_L_revision_25 : decode method_13_code 25 = .ok (.iconst 3, 1) := by decide +kernel
theorem d_L_revision_26 : decode method_13_code 26 = .ok (.ireturn, 1) := by decide +kernel
theorem d_L_revision_27 : decode method_13_code 27 = .ok (.iconst 0, 1) := by decide +kernel
theorem d_L_revision_28 : decode method_13_code 28 = .ok (.ireturn, 1) := by decide +kernel
theorem d_L_steps_0 : decode method_9_code 0 = .ok (.aload_n 1, 1) := by decide +kernel
theorem d_L_steps_1 : decode method_9_code 1 = .ok (.iconst 0, 1) := by decide +kernel
theorem d_L_steps_2 : decode method_9_code 2 = .ok (.aload_n 0, 1) := by decide +kernel
theorem d_L_steps_3 : decode method_9_code 3 = .ok (.invokevirtual 34, 3) := by decide +kernel
theorem d_L_steps_6 : decode method_9_code 6 = .ok (.i2l, 1) := by decide +kernel
theorem d_L_steps_7 : decode method_9_code 7 = .ok (.lastore, 1) := by decide +kernel
theorem d_L_steps_8 : decode method_9_code 8 = .ok (.goto 6, 3) := by decide +kernel
theorem d_L_steps_11 : decode method_9_code 11 = .ok (.astore_n 2, 1) := by decide +kernel
theorem d_L_steps_12 : decode method_9_code 12 = .ok (.iconst 1, 1) := by decide +kernel
theorem d_L_steps_13 : decode method_9_code 13 = .ok (.ireturn, 1) := by decide +kernel
theorem d_L_steps_14 : decode method_9_code 14 = .ok (.iconst 0, 1) := by decide +kernel
theorem d_L_steps_15 : decode method_9_code 15 = .ok (.ireturn, 1) := by decide +kernel
theorem d_L_trim_0 : decode method_10_code 0 = .ok (.aload_n 3, 1) := by decide +kernel
theorem d_L_trim_1 : decode method_10_code 1 = .ok (.iconst 0, 1) := by decide +kernel
theorem d_L_trim_2 : decode method_10_code 2 = .ok (.aload_n 0, 1) := by decide +kernel
theorem d_L_trim_3 : decode method_10_code 3 = .ok (.iload_n 1, 1) := by decide +kernel
theorem d_L_trim_4 : decode method_10_code 4 = .ok (.iload_n 2, 1) := by decide +kernel
theorem d_L_trim_5 : decode method_10_code 5 = .ok (.invokevirtual 37, 3) := by decide +kernel
theorem d_L_trim_8 : decode method_10_code 8 = .ok (.ifCond .eq 7, 3) := by decide +kernel
theorem d_L_trim_11 : decode method_10_code 11 = .ok (.lconst 1, 1) := by decide +kernel
theorem d_L_trim_12 : decode method_10_code 12 = .ok (.goto 4, 3) := by decide +kernel
theorem d_L_trim_15 : decode method_10_code 15 = .ok (.lconst 0, 1) := by decide +kernel
theorem d_L_trim_16 : decode method_10_code 16 = .ok (.lastore, 1) := by decide +kernel
theorem d_L_trim_17 : decode method_10_code 17 = .ok (.goto 7, 3) := by decide +kernel
theorem d_L_trim_20 : decode method_10_code 20 = .ok (.astore 4, 2) := by decide +kernel
theorem d_L_trim_22 : decode method_10_code 22 = .ok (.iconst 1, 1) := by decide +kernel
theorem d_L_trim_23 : decode method_10_code 23 = .ok (.ireturn, 1) := by decide +kernel
theorem d_L_trim_24 : decode method_10_code 24 = .ok (.iconst 0, 1) := by decide +kernel
theorem d_L_trim_25 : decode method_10_code 25 = .ok (.ireturn, 1) := by decide +kernel
theorem d_L_verify_0 : decode method_16_code 0 = .ok (.aload_n 2, 1) := by decide +kernel
theorem d_L_verify_1 : decode method_16_code 1 = .ok (.iconst 0, 1) := by decide +kernel
theorem d_L_verify_2 : decode method_16_code 2 = .ok (.aload_n 0, 1) := by decide +kernel
theorem d_L_verify_3 : decode method_16_code 3 = .ok (.iload_n 1, 1) := by decide +kernel
theorem d_L_verify_4 : decode method_16_code 4 = .ok (.invokevirtual 62, 3) := by decide +kernel
theorem d_L_verify_7 : decode method_16_code 7 = .ok (.i2l, 1) := by decide +kernel
theorem d_L_verify_8 : decode method_16_code 8 = .ok (.lastore, 1) := by decide +kernel
theorem d_L_verify_9 : decode method_16_code 9 = .ok (.goto 6, 3) := by decide +kernel
theorem d_L_verify_12 : decode method_16_code 12 = .ok (.astore_n 3, 1) := by decide +kernel
theorem d_L_verify_13 : decode method_16_code 13 = .ok (.iconst 1, 1) := by decide +kernel
theorem d_L_verify_14 : decode method_16_code 14 = .ok (.ireturn, 1) := by decide +kernel
theorem d_L_verify_15 : decode method_16_code 15 = .ok (.iconst 0, 1) := by decide +kernel
theorem d_L_verify_16 : decode method_16_code 16 = .ok (.ireturn, 1) := by decide +kernel
theorem d_O_init_0 : decode prog_9_method_1_code 0 = .ok (.aload_n 0, 1) := by decide +kernel
theorem d_O_init_1 : decode prog_9_method_1_code 1 = .ok (.invokespecial 1, 3) := by decide +kernel
theorem d_O_init_4 : decode prog_9_method_1_code 4 = .ok (.aload_n 0, 1) := by decide +kernel
theorem d_O_init_5 : decode prog_9_method_1_code 5 = .ok (.iconst (-1), 1) := by decide +kernel
theorem d_O_init_6 : decode prog_9_method_1_code 6 = .ok (.putfield 9, 3) := by decide +kernel
theorem d_O_init_9 : decode prog_9_method_1_code 9 = .ok (.aload_n 0, 1) := by decide +kernel
theorem d_O_init_10 : decode prog_9_method_1_code 10 = .ok (.sipush 256, 3) := by decide +kernel
theorem d_O_init_13 : decode prog_9_method_1_code 13 = .ok (.newarray .byte, 2) := by decide +kernel
theorem d_O_init_15 : decode prog_9_method_1_code 15 = .ok (.putfield 13, 3) := by decide +kernel
theorem d_O_init_18 : decode prog_9_method_1_code 18 = .ok (.aload_n 0, 1) := by decide +kernel
theorem d_O_init_19 : decode prog_9_method_1_code 19 = .ok (.bipush 8, 2) := by decide +kernel
theorem d_O_init_21 : decode prog_9_method_1_code 21 = .ok (.newarray .boolean, 2) := by decide +kernel
theorem d_O_init_23 : decode prog_9_method_1_code 23 = .ok (.putfield 17, 3) := by decide +kernel
theorem d_O_init_26 : decode prog_9_method_1_code 26 = .ok (.aload_n 0, 1) := by decide +kernel
theorem d_O_init_27 : decode prog_9_method_1_code 27 = .ok (.bipush 8, 2) := by decide +kernel
theorem d_O_init_29 : decode prog_9_method_1_code 29 = .ok (.newarray .int, 2) := by decide +kernel
theorem d_O_init_31 : decode prog_9_method_1_code 31 = .ok (.putfield 21, 3) := by decide +kernel
theorem d_O_init_34 : decode prog_9_method_1_code 34 = .ok (.aload_n 0, 1) := by decide +kernel
theorem d_O_init_35 : decode prog_9_method_1_code 35 = .ok (.bipush 8, 2) := by decide +kernel
theorem d_O_init_37 : decode prog_9_method_1_code 37 = .ok (.newarray .int, 2) := by decide +kernel
theorem d_O_init_39 : decode prog_9_method_1_code 39 = .ok (.putfield 25, 3) := by decide +kernel
theorem d_O_init_42 : decode prog_9_method_1_code 42 = .ok (.aload_n 0, 1) := by decide +kernel
theorem d_O_init_43 : decode prog_9_method_1_code 43 = .ok (.sipush 512, 3) := by decide +kernel
theorem d_O_init_46 : decode prog_9_method_1_code 46 = .ok (.newarray .short, 2) := by decide +kernel
theorem d_O_init_48 : decode prog_9_method_1_code 48 = .ok (.putfield 28, 3) := by decide +kernel
theorem d_O_init_51 : decode prog_9_method_1_code 51 = .ok (.aload_n 0, 1) := by decide +kernel
theorem d_O_init_52 : decode prog_9_method_1_code 52 = .ok (.sipush 512, 3) := by decide +kernel
theorem d_O_init_55 : decode prog_9_method_1_code 55 = .ok (.newarray .int, 2) := by decide +kernel
theorem d_O_init_57 : decode prog_9_method_1_code 57 = .ok (.putfield 32, 3) := by decide +kernel
theorem d_O_init_60 : decode prog_9_method_1_code 60 = .ok (.aload_n 0, 1) := by decide +kernel
theorem d_O_init_61 : decode prog_9_method_1_code 61 = .ok (.sipush 512, 3) := by decide +kernel
theorem d_O_init_64 : decode prog_9_method_1_code 64 = .ok (.newarray .int, 2) := by decide +kernel
theorem d_O_init_66 : decode prog_9_method_1_code 66 = .ok (.putfield 35, 3) := by decide +kernel
theorem d_O_init_69 : decode prog_9_method_1_code 69 = .ok (.aload_n 0, 1) := by decide +kernel
theorem d_O_init_70 : decode prog_9_method_1_code 70 = .ok (.sipush 16384, 3) := by decide +kernel
theorem d_O_init_73 : decode prog_9_method_1_code 73 = .ok (.newarray .byte, 2) := by decide +kernel
theorem d_O_init_75 : decode prog_9_method_1_code 75 = .ok (.putfield 38, 3) := by decide +kernel
theorem d_O_init_78 : decode prog_9_method_1_code 78 = .ok (.aload_n 0, 1) := by decide +kernel
theorem d_O_init_79 : decode prog_9_method_1_code 79 = .ok (.sipush 256, 3) := by decide +kernel
theorem d_O_init_82 : decode prog_9_method_1_code 82 = .ok (.newarray .byte, 2) := by decide +kernel
theorem d_O_init_84 : decode prog_9_method_1_code 84 = .ok (.putfield 41, 3) := by decide +kernel
theorem d_O_init_87 : decode prog_9_method_1_code 87 = .ok (.aload_n 0, 1) := by decide +kernel
theorem d_O_init_88 : decode prog_9_method_1_code 88 = .ok (.sipush 256, 3) := by decide +kernel
theorem d_O_init_91 : decode prog_9_method_1_code 91 = .ok (.newarray .byte, 2) := by decide +kernel
theorem d_O_init_93 : decode prog_9_method_1_code 93 = .ok (.putfield 44, 3) := by decide +kernel
theorem d_O_init_96 : decode prog_9_method_1_code 96 = .ok (.aload_n 0, 1) := by decide +kernel
theorem d_O_init_97 : decode prog_9_method_1_code 97 = .ok (.sipush 256, 3) := by decide +kernel
theorem d_O_init_100 : decode prog_9_method_1_code 100 = .ok (.newarray .byte, 2) := by decide +kernel
theorem d_O_init_102 : decode prog_9_method_1_code 102 = .ok (.putfield 47, 3) := by decide +kernel
theorem d_O_init_105 : decode prog_9_method_1_code 105 = .ok (.aload_n 0, 1) := by decide +kernel
theorem d_O_init_106 : decode prog_9_method_1_code 106 = .ok (.iconst (-1), 1) := by decide +kernel
theorem d_O_init_107 : decode prog_9_method_1_code 107 = .ok (.putfield 50, 3) := by decide +kernel
theorem d_O_init_110 : decode prog_9_method_1_code 110 = .ok (.aload_n 0, 1) := by decide +kernel
theorem d_O_init_111 : decode prog_9_method_1_code 111 = .ok (.iconst (-1), 1) := by decide +kernel
theorem d_O_init_112 : decode prog_9_method_1_code 112 = .ok (.putfield 53, 3) := by decide +kernel
theorem d_O_init_115 : decode prog_9_method_1_code 115 = .ok (.aload_n 0, 1) := by decide +kernel
theorem d_O_init_116 : decode prog_9_method_1_code 116 = .ok (.sipush 256, 3) := by decide +kernel
theorem d_O_init_119 : decode prog_9_method_1_code 119 = .ok (.newarray .byte, 2) := by decide +kernel
theorem d_O_init_121 : decode prog_9_method_1_code 121 = .ok (.putfield 56, 3) := by decide +kernel
theorem d_O_init_124 : decode prog_9_method_1_code 124 = .ok (.aload_n 0, 1) := by decide +kernel
theorem d_O_init_125 : decode prog_9_method_1_code 125 = .ok (.sipush 600, 3) := by decide +kernel
theorem d_O_init_128 : decode prog_9_method_1_code 128 = .ok (.newarray .byte, 2) := by decide +kernel
theorem d_O_init_130 : decode prog_9_method_1_code 130 = .ok (.putfield 59, 3) := by decide +kernel
theorem d_O_init_133 : decode prog_9_method_1_code 133 = .ok (.iconst 0, 1) := by decide +kernel
theorem d_O_init_134 : decode prog_9_method_1_code 134 = .ok (.istore_n 1, 1) := by decide +kernel
theorem d_O_init_135 : decode prog_9_method_1_code 135 = .ok (.iload_n 1, 1) := by decide +kernel
theorem d_O_init_136 : decode prog_9_method_1_code 136 = .ok (.sipush 512, 3) := by decide +kernel
theorem d_O_init_139 : decode prog_9_method_1_code 139 = .ok (.if_icmp .ge 16, 3) := by decide +kernel
theorem d_O_init_142 : decode prog_9_method_1_code 142 = .ok (.aload_n 0, 1) := by decide +kernel
theorem d_O_init_143 : decode prog_9_method_1_code 143 = .ok (.getfield 28, 3) := by decide +kernel
theorem d_O_init_146 : decode prog_9_method_1_code 146 = .ok (.iload_n 1, 1) := by decide +kernel
theorem d_O_init_147 : decode prog_9_method_1_code 147 = .ok (.iconst (-1), 1) := by decide +kernel
theorem d_O_init_148 : decode prog_9_method_1_code 148 = .ok (.sastore, 1) := by decide +kernel
theorem d_O_init_149 : decode prog_9_method_1_code 149 = .ok (.iinc 1 1, 3) := by decide +kernel
theorem d_O_init_152 : decode prog_9_method_1_code 152 = .ok (.goto (-17), 3) := by decide +kernel
theorem d_O_init_155 : decode prog_9_method_1_code 155 = .ok (.return_, 1) := by decide +kernel
theorem d_O_about_0 : decode prog_9_method_33_code 0 = .ok (.aload_n 0, 1) := by decide +kernel
theorem d_O_about_1 : decode prog_9_method_33_code 1 = .ok (.iconst 3, 1) := by decide +kernel
theorem d_O_about_2 : decode prog_9_method_33_code 2 = .ok (.invokevirtual 72, 3) := by decide +kernel
theorem d_O_about_5 : decode prog_9_method_33_code 5 = .ok (.ifCond .ne 5, 3) := by decide +kernel
theorem d_O_about_8 : decode prog_9_method_33_code 8 = .ok (.iconst 0, 1) := by decide +kernel
theorem d_O_about_9 : decode prog_9_method_33_code 9 = .ok (.ireturn, 1) := by decide +kernel
theorem d_O_about_10 : decode prog_9_method_33_code 10 = .ok (.aload_n 0, 1) := by decide +kernel
theorem d_O_about_11 : decode prog_9_method_33_code 11 = .ok (.aload_n 0, 1) := by decide +kernel
theorem d_O_about_12 : decode prog_9_method_33_code 12 = .ok (.iload_n 1, 1) := by decide +kernel
theorem d_O_about_13 : decode prog_9_method_33_code 13 = .ok (.invokevirtual 79, 3) := by decide +kernel
theorem d_O_about_16 : decode prog_9_method_33_code 16 = .ok (.ifCond .ne 7, 3) := by decide +kernel
theorem d_O_about_19 : decode prog_9_method_33_code 19 = .ok (.iconst 1, 1) := by decide +kernel
theorem d_O_about_20 : decode prog_9_method_33_code 20 = .ok (.goto 17, 3) := by decide +kernel
theorem d_O_about_23 : decode prog_9_method_33_code 23 = .ok (.iload_n 2, 1) := by decide +kernel
theorem d_O_about_24 : decode prog_9_method_33_code 24 = .ok (.ifCond .lt 8, 3) := by decide +kernel
theorem d_O_about_27 : decode prog_9_method_33_code 27 = .ok (.iload_n 2, 1) := by decide +kernel
theorem d_O_about_28 : decode prog_9_method_33_code 28 = .ok (.iconst 1, 1) := by decide +kernel
theorem d_O_about_29 : decode prog_9_method_33_code 29 = .ok (.if_icmp .le 7, 3) := by decide +kernel
theorem d_O_about_32 : decode prog_9_method_33_code 32 = .ok (.iconst 2, 1) := by decide +kernel
theorem d_O_about_33 : decode prog_9_method_33_code 33 = .ok (.goto 4, 3) := by decide +kernel
theorem d_O_about_36 : decode prog_9_method_33_code 36 = .ok (.iconst 0, 1) := by decide +kernel
theorem d_O_about_37 : decode prog_9_method_33_code 37 = .ok (.putfield 62, 3) := by decide +kernel
theorem d_O_about_40 : decode prog_9_method_33_code 40 = .ok (.aload_n 0, 1) := by decide +kernel
theorem d_O_about_41 : decode prog_9_method_33_code 41 = .ok (.getfield 62, 3) := by decide +kernel
theorem d_O_about_44 : decode prog_9_method_33_code 44 = .ok (.ifCond .eq 7, 3) := by decide +kernel
theorem d_O_about_47 : decode prog_9_method_33_code 47 = .ok (.iconst 0, 1) := by decide +kernel
theorem d_O_about_48 : decode prog_9_method_33_code 48 = .ok (.goto 37, 3) := by decide +kernel
theorem d_O_about_51 : decode prog_9_method_33_code 51 = .ok (.iload_n 2, 1) := by decide +kernel
theorem d_O_about_52 : decode prog_9_method_33_code 52 = .ok (.ifCond .ne 12, 3) := by decide +kernel
theorem d_O_about_55 : decode prog_9_method_33_code 55 = .ok (.aload_n 0, 1) := by decide +kernel
theorem d_O_about_56 : decode prog_9_method_33_code 56 = .ok (.getfield 21, 3) := by decide +kernel
theorem d_O_about_59 : decode prog_9_method_33_code 59 = .ok (.iload_n 1, 1) := by decide +kernel
theorem d_O_about_60 : decode prog_9_method_33_code 60 = .ok (.iaload, 1) := by decide +kernel
theorem d_O_about_61 : decode prog_9_method_33_code 61 = .ok (.goto 24, 3) := by decide +kernel
theorem d_O_about_64 : decode prog_9_method_33_code 64 = .ok (.aload_n 0, 1) := by decide +kernel
theorem d_O_about_65 : decode prog_9_method_33_code 65 = .ok (.getfield 25, 3) := by decide +kernel
theorem d_O_about_68 : decode prog_9_method_33_code 68 = .ok (.iload_n 1, 1) := by decide +kernel
theorem d_O_about_69 : decode prog_9_method_33_code 69 = .ok (.iaload, 1) := by decide +kernel
theorem d_O_about_70 : decode prog_9_method_33_code 70 = .ok (.ifCond .ne 7, 3) := by decide +kernel
theorem d_O_about_73 : decode prog_9_method_33_code 73 = .ok (.iconst (-1), 1) := by decide +kernel
theorem d_O_about_74 : decode prog_9_method_33_code 74 = .ok (.goto 11, 3) := by decide +kernel
theorem d_O_about_77 : decode prog_9_method_33_code 77 = .ok (.aload_n 0, 1) := by decide +kernel
theorem d_O_about_78 : decode prog_9_method_33_code 78 = .ok (.getfield 25, 3) := by decide +kernel
theorem d_O_about_81 : decode prog_9_method_33_code 81 = .ok (.iload_n 1, 1) := by decide +kernel
theorem d_O_about_82 : decode prog_9_method_33_code 82 = .ok (.iaload, 1) := by decide +kernel
theorem d_O_about_83 : decode prog_9_method_33_code 83 = .ok (.iconst 1, 1) := by decide +kernel
theorem d_O_about_84 : decode prog_9_method_33_code 84 = .ok (.isub, 1) := by decide +kernel
theorem d_O_about_85 : decode prog_9_method_33_code 85 = .ok (.ireturn, 1) := by decide +kernel
theorem d_O_again_0 : decode prog_9_method_20_code 0 = .ok (.aload_n 0, 1) := by decide +kernel
theorem d_O_again_1 : decode prog_9_method_20_code 1 = .ok (.iconst 0, 1) := by decide +kernel
theorem d_O_again_2 : decode prog_9_method_20_code 2 = .ok (.putfield 113, 3) := by decide +kernel
theorem d_O_again_5 : decode prog_9_method_20_code 5 = .ok (.aload_n 0, 1) := by decide +kernel
theorem d_O_again_6 : decode prog_9_method_20_code 6 = .ok (.bipush 64, 2) := by decide +kernel
theorem d_O_again_8 : decode prog_9_method_20_code 8 = .ok (.iload_n 1, 1) := by decide +kernel
theorem d_O_again_9 : decode prog_9_method_20_code 9 = .ok (.imul, 1) := by decide +kernel
theorem d_O_again_10 : decode prog_9_method_20_code 10 = .ok (.invokevirtual 122, 3) := by decide +kernel
theorem d_O_again_13 : decode prog_9_method_20_code 13 = .ok (.ifCond .ne 5, 3) := by decide +kernel
theorem d_O_again_16 : decode prog_9_method_20_code 16 = .ok (.iconst 0, 1) := by decide +kernel
theorem d_O_again_17 : decode prog_9_method_20_code 17 = .ok (.ireturn, 1) := by decide +kernel
theorem d_O_again_18 : decode prog_9_method_20_code 18 = .ok (.iconst 0, 1) := by decide +kernel
theorem d_O_again_19 : decode prog_9_method_20_code 19 = .ok (.istore_n 3, 1) := by decide +kernel
theorem d_O_again_20 : decode prog_9_method_20_code 20 = .ok (.bipush 32, 2) := by decide +kernel
theorem d_O_again_22 : decode prog_9_method_20_code 22 = .ok (.istore 4, 2) := by decide +kernel
theorem d_O_again_24 : decode prog_9_method_20_code 24 = .ok (.iload 4, 2) := by decide +kernel
theorem d_O_again_26 : decode prog_9_method_20_code 26 = .ok (.ifCond .le 39, 3) := by decide +kernel
theorem d_O_again_29 : decode prog_9_method_20_code 29 = .ok (.iload_n 2, 1) := by decide +kernel
theorem d_O_again_30 : decode prog_9_method_20_code 30 = .ok (.iload 4, 2) := by decide +kernel
theorem d_O_again_32 : decode prog_9_method_20_code 32 = .ok (.iand, 1) := by decide +kernel
theorem d_O_again_33 : decode prog_9_method_20_code 33 = .ok (.ifCond .eq 23, 3) := by decide +kernel
theorem d_O_again_36 : decode prog_9_method_20_code 36 = .ok (.iload_n 3, 1) := by decide +kernel
theorem d_O_again_37 : decode prog_9_method_20_code 37 = .ok (.iload 4, 2) := by decide +kernel
theorem d_O_again_39 : decode prog_9_method_20_code 39 = .ok (.iadd, 1) := by decide +kernel
theorem d_O_again_40 : decode prog_9_method_20_code 40 = .ok (.istore_n 3, 1) := by decide +kernel
theorem d_O_again_41 : decode prog_9_method_20_code 41 = .ok (.aload_n 0, 1) := by decide +kernel
theorem d_O_again_42 : decode prog_9_method_20_code 42 = .ok (.bipush 64, 2) := by decide +kernel
theorem d_O_again_44 : decode prog_9_method_20_code 44 = .ok (.iload_n 1, 1) := by decide +kernel
theorem d_O_again_45 : decode prog_9_method_20_code 45 = .ok (.imul, 1) := by decide +kernel
theorem d_O_again_46 : decode prog_9_method_20_code 46 = .ok (.iload_n 3, 1) := by decide +kernel
theorem d_O_again_47 : decode prog_9_method_20_code 47 = .ok (.iadd, 1) := by decide +kernel
theorem d_O_again_48 : decode prog_9_method_20_code 48 = .ok (.invokevirtual 122, 3) := by decide +kernel
theorem d_O_again_51 : decode prog_9_method_20_code 51 = .ok (.ifCond .ne 5, 3) := by decide +kernel
theorem d_O_again_54 : decode prog_9_method_20_code 54 = .ok (.iconst 0, 1) := by decide +kernel
theorem d_O_again_55 : decode prog_9_method_20_code 55 = .ok (.ireturn, 1) := by decide +kernel
theorem d_O_again_56 : decode prog_9_method_20_code 56 = .ok (.iload 4, 2) := by decide +kernel
theorem d_O_again_58 : decode prog_9_method_20_code 58 = .ok (.iconst 2, 1) := by decide +kernel
theorem d_O_again_59 : decode prog_9_method_20_code 59 = .ok (.idiv, 1) := by decide +kernel
theorem d_O_again_60 : decode prog_9_method_20_code 60 = .ok (.istore 4, 2) := by decide +kernel
theorem d_O_again_62 : decode prog_9_method_20_code 62 = .ok (.goto (-38), 3) := by decide +kernel
theorem d_O_again_65 : decode prog_9_method_20_code 65 = .ok (.iconst 1, 1) := by decide +kernel
theorem d_O_again_66 : decode prog_9_method_20_code 66 = .ok (.ireturn, 1) := by decide +kernel
theorem d_O_begins_0 : decode prog_9_method_10_code 0 = .ok (.iconst 0, 1) := by decide +kernel
theorem d_O_begins_1 : decode prog_9_method_10_code 1 = .ok (.istore_n 2, 1) := by decide +kernel
theorem d_O_begins_2 : decode prog_9_method_10_code 2 = .ok (.iconst 0, 1) := by decide +kernel
theorem d_O_begins_3 : decode prog_9_method_10_code 3 = .ok (.istore_n 3, 1) := by decide +kernel
theorem d_O_begins_4 : decode prog_9_method_10_code 4 = .ok (.iload_n 3, 1) := by decide +kernel
theorem d_O_begins_5 : decode prog_9_method_10_code 5 = .ok (.iload_n 1, 1) := by decide +kernel
theorem d_O_begins_6 : decode prog_9_method_10_code 6 = .ok (.if_icmp .ge 31, 3) := by decide +kernel
theorem d_O_begins_9 : decode prog_9_method_10_code 9 = .ok (.iload_n 2, 1) := by decide +kernel
theorem d_O_begins_10 : decode prog_9_method_10_code 10 = .ok (.aload_n 0, 1) := by decide +kernel
theorem d_O_begins_11 : decode prog_9_method_10_code 11 = .ok (.getfield 28, 3) := by decide +kernel
theorem d_O_begins_14 : decode prog_9_method_10_code 14 = .ok (.iload_n 3, 1) := by decide +kernel
theorem d_O_begins_15 : decode prog_9_method_10_code 15 = .ok (.saload, 1) := by decide +kernel
theorem d_O_begins_16 : decode prog_9_method_10_code 16 = .ok (.ifCond .le 12, 3) := by decide +kernel
theorem d_O_begins_19 : decode prog_9_method_10_code 19 = .ok (.aload_n 0, 1) := by decide +kernel
theorem d_O_begins_20 : decode prog_9_method_10_code 20 = .ok (.getfield 28, 3) := by decide +kernel
theorem d_O_begins_23 : decode prog_9_method_10_code 23 = .ok (.iload_n 3, 1) := by decide +kernel
theorem d_O_begins_24 : decode prog_9_method_10_code 24 = .ok (.saload, 1) := by decide +kernel
theorem d_O_begins_25 : decode prog_9_method_10_code 25 = .ok (.goto 4, 3) := by decide +kernel
theorem d_O_begins_28 : decode prog_9_method_10_code 28 = .ok (.iconst 0, 1) := by decide +kernel
theorem d_O_begins_29 : decode prog_9_method_10_code 29 = .ok (.iadd, 1) := by decide +kernel
theorem d_O_begins_30 : decode prog_9_method_10_code 30 = .ok (.istore_n 2, 1) := by decide +kernel
theorem d_O_begins_31 : decode prog_9_method_10_code 31 = .ok (.iinc 3 1, 3) := by decide +kernel
theorem d_O_begins_34 : decode prog_9_method_10_code 34 = .ok (.goto (-30), 3) := by decide +kernel
theorem d_O_begins_37 : decode prog_9_method_10_code 37 = .ok (.iload_n 2, 1) := by decide +kernel
theorem d_O_begins_38 : decode prog_9_method_10_code 38 = .ok (.ireturn, 1) := by decide +kernel
theorem d_O_blocks_0 : decode prog_9_method_11_code 0 = .ok (.iload_n 0, 1) := by decide +kernel
theorem d_O_blocks_1 : decode prog_9_method_11_code 1 = .ok (.bipush 31, 2) := by decide +kernel
theorem d_O_blocks_3 : decode prog_9_method_11_code 3 = .ok (.iadd, 1) := by decide +kernel
theorem d_O_blocks_4 : decode prog_9_method_11_code 4 = .ok (.bipush 32, 2) := by decide +kernel
theorem d_O_blocks_6 : decode prog_9_method_11_code 6 = .ok (.idiv, 1) := by decide +kernel
theorem d_O_blocks_7 : decode prog_9_method_11_code 7 = .ok (.ireturn, 1) := by decide +kernel
theorem d_O_cleans_0 : decode prog_9_method_15_code 0 = .ok (.iconst 0, 1) := by decide +kernel
theorem d_O_cleans_1 : decode prog_9_method_15_code 1 = .ok (.istore_n 2, 1) := by decide +kernel
theorem d_O_cleans_2 : decode prog_9_method_15_code 2 = .ok (.iload_n 2, 1) := by decide +kernel
theorem d_O_cleans_3 : decode prog_9_method_15_code 3 = .ok (.bipush 64, 2) := by decide +kernel
theorem d_O_cleans_5 : decode prog_9_method_15_code 5 = .ok (.if_icmp .ge 93, 3) := by decide +kernel
theorem d_O_cleans_8 : decode prog_9_method_15_code 8 = .ok (.iconst 0, 1) := by decide +kernel
theorem d_O_cleans_9 : decode prog_9_method_15_code 9 = .ok (.istore_n 3, 1) := by decide +kernel
theorem d_O_cleans_10 : decode prog_9_method_15_code 10 = .ok (.aload_n 0, 1) := by decide +kernel
theorem d_O_cleans_11 : decode prog_9_method_15_code 11 = .ok (.getfield 21, 3) := by decide +kernel
theorem d_O_cleans_14 : decode prog_9_method_15_code 14 = .ok (.iload_n 1, 1) := by decide +kernel
theorem d_O_cleans_15 : decode prog_9_method_15_code 15 = .ok (.iaload, 1) := by decide +kernel
theorem d_O_cleans_16 : decode prog_9_method_15_code 16 = .ok (.istore 4, 2) := by decide +kernel
theorem d_O_cleans_18 : decode prog_9_method_15_code 18 = .ok (.iload 4, 2) := by decide +kernel
theorem d_O_cleans_20 : decode prog_9_method_15_code 20 = .ok (.aload_n 0, 1) := by decide +kernel
theorem d_O_cleans_21 : decode prog_9_method_15_code 21 = .ok (.getfield 25, 3) := by decide +kernel
theorem d_O_cleans_24 : decode prog_9_method_15_code 24 = .ok (.iload_n 1, 1) := by decide +kernel
theorem d_O_cleans_25 : decode prog_9_method_15_code 25 = .ok (.iaload, 1) := by decide +kernel
theorem d_O_cleans_26 : decode prog_9_method_15_code 26 = .ok (.if_icmp .ge 37, 3) := by decide +kernel
theorem d_O_cleans_29 : decode prog_9_method_15_code 29 = .ok (.aload_n 0, 1) := by decide +kernel
theorem d_O_cleans_30 : decode prog_9_method_15_code 30 = .ok (.getfield 17, 3) := by decide +kernel
theorem d_O_cleans_33 : decode prog_9_method_15_code 33 = .ok (.iload_n 1, 1) := by decide +kernel
theorem d_O_cleans_34 : decode prog_9_method_15_code 34 = .ok (.baload, 1) := by decide +kernel
theorem d_O_cleans_35 : decode prog_9_method_15_code 35 = .ok (.ifCond .ne 28, 3) := by decide +kernel
theorem d_O_cleans_38 : decode prog_9_method_15_code 38 = .ok (.iload_n 3, 1) := by decide +kernel
theorem d_O_cleans_39 : decode prog_9_method_15_code 39 = .ok (.ifCond .ne 12, 3) := by decide +kernel
theorem d_O_cleans_42 : decode prog_9_method_15_code 42 = .ok (.iload_n 2, 1) := by decide +kernel
theorem d_O_cleans_43 : decode prog_9_method_15_code 43 = .ok (.iload 4, 2) := by decide +kernel
theorem d_O_cleans_45 : decode prog_9_method_15_code 45 = .ok (.invokestatic 89, 3) := by decide +kernel
theorem d_O_cleans_48 : decode prog_9_method_15_code 48 = .ok (.ifCond .eq 7, 3) := by decide +kernel
theorem d_O_cleans_51 : decode prog_9_method_15_code 51 = .ok (.iconst 1, 1) := by decide +kernel
theorem d_O_cleans_52 : decode prog_9_method_15_code 52 = .ok (.goto 4, 3) := by decide +kernel
theorem d_O_cleans_55 : decode prog_9_method_15_code 55 = .ok (.iconst 0, 1) := by decide +kernel
theorem d_O_cleans_56 : decode prog_9_method_15_code 56 = .ok (.istore_n 3, 1) := by decide +kernel
theorem d_O_cleans_57 : decode prog_9_method_15_code 57 = .ok (.iinc 4 1, 3) := by decide +kernel
theorem d_O_cleans_60 : decode prog_9_method_15_code 60 = .ok (.goto (-42), 3) := by decide +kernel
theorem d_O_cleans_63 : decode prog_9_method_15_code 63 = .ok (.iload_n 3, 1) := by decide +kernel
theorem d_O_cleans_64 : decode prog_9_method_15_code 64 = .ok (.ifCond .ne 28, 3) := by decide +kernel
theorem d_O_cleans_67 : decode prog_9_method_15_code 67 = .ok (.aload_n 0, 1) := by decide +kernel
theorem d_O_cleans_68 : decode prog_9_method_15_code 68 = .ok (.getfield 28, 3) := by decide +kernel
theorem d_O_cleans_71 : decode prog_9_method_15_code 71 = .ok (.bipush 64, 2) := by decide +kernel
theorem d_O_cleans_73 : decode prog_9_method_15_code 73 = .ok (.iload_n 1, 1) := by decide +kernel
theorem d_O_cleans_74 : decode prog_9_method_15_code 74 = .ok (.imul, 1) := by decide +kernel
theorem d_O_cleans_75 : decode prog_9_method_15_code 75 = .ok (.iload_n 2, 1) := by decide +kernel
theorem d_O_cleans_76 : decode prog_9_method_15_code 76 = .ok (.iadd, 1) := by decide +kernel
theorem d_O_cleans_77 : decode prog_9_method_15_code 77 = .ok (.saload, 1) := by decide +kernel
theorem d_O_cleans_78 : decode prog_9_method_15_code 78 = .ok (.iconst (-1), 1) := by decide +kernel
theorem d_O_cleans_79 : decode prog_9_method_15_code 79 = .ok (.if_icmp .eq 13, 3) := by decide +kernel
theorem d_O_cleans_82 : decode prog_9_method_15_code 82 = .ok (.aload_n 0, 1) := by decide +kernel
theorem d_O_cleans_83 : decode prog_9_method_15_code 83 = .ok (.bipush 64, 2) := by decide +kernel
theorem d_O_cleans_85 : decode prog_9_method_15_code 85 = .ok (.iload_n 1, 1) := by decide +kernel
theorem d_O_cleans_86 : decode prog_9_method_15_code 86 = .ok (.imul, 1) := by decide +kernel
theorem d_O_cleans_87 : decode prog_9_method_15_code 87 = .ok (.iload_n 2, 1) := by decide +kernel
theorem d_O_cleans_88 : decode prog_9_method_15_code 88 = .ok (.iadd, 1) := by decide +kernel
theorem d_O_cleans_89 : decode prog_9_method_15_code 89 = .ok (.invokevirtual 93, 3) := by decide +kernel
theorem d_O_cleans_92 : decode prog_9_method_15_code 92 = .ok (.iinc 2 1, 3) := by decide +kernel
theorem d_O_cleans_95 : decode prog_9_method_15_code 95 = .ok (.goto (-93), 3) := by decide +kernel
theorem d_O_cleans_98 : decode prog_9_method_15_code 98 = .ok (.return_, 1) := by decide +kernel
theorem d_O_command_0 : decode prog_9_method_18_code 0 = .ok (.aload_n 0, 1) := by decide +kernel
theorem d_O_command_1 : decode prog_9_method_18_code 1 = .ok (.invokevirtual 109, 3) := by decide +kernel
theorem d_O_command_4 : decode prog_9_method_18_code 4 = .ok (.ifCond .ne 5, 3) := by decide +kernel
theorem d_O_command_7 : decode prog_9_method_18_code 7 = .ok (.iconst 0, 1) := by decide +kernel
theorem d_O_command_8 : decode prog_9_method_18_code 8 = .ok (.ireturn, 1) := by decide +kernel
theorem d_O_command_9 : decode prog_9_method_18_code 9 = .ok (.aload_n 0, 1) := by decide +kernel
theorem d_O_command_10 : decode prog_9_method_18_code 10 = .ok (.getfield 100, 3) := by decide +kernel
theorem d_O_command_13 : decode prog_9_method_18_code 13 = .ok (.iconst 2, 1) := by decide +kernel
theorem d_O_command_14 : decode prog_9_method_18_code 14 = .ok (.idiv, 1) := by decide +kernel
theorem d_O_command_15 : decode prog_9_method_18_code 15 = .ok (.istore_n 1, 1) := by decide +kernel
theorem d_O_command_16 : decode prog_9_method_18_code 16 = .ok (.aload_n 0, 1) := by decide +kernel
theorem d_O_command_17 : decode prog_9_method_18_code 17 = .ok (.getfield 100, 3) := by decide +kernel
theorem d_O_command_20 : decode prog_9_method_18_code 20 = .ok (.iconst 2, 1) := by decide +kernel
theorem d_O_command_21 : decode prog_9_method_18_code 21 = .ok (.irem, 1) := by decide +kernel
theorem d_O_command_22 : decode prog_9_method_18_code 22 = .ok (.iconst 1, 1) := by decide +kernel
theorem d_O_command_23 : decode prog_9_method_18_code 23 = .ok (.if_icmp .ne 7, 3) := by decide +kernel
theorem d_O_command_26 : decode prog_9_method_18_code 26 = .ok (.iconst 1, 1) := by decide +kernel
theorem d_O_command_27 : decode prog_9_method_18_code 27 = .ok (.goto 4, 3) := by decide +kernel
theorem d_O_command_30 : decode prog_9_method_18_code 30 = .ok (.iconst 0, 1) := by decide +kernel
theorem d_O_command_31 : decode prog_9_method_18_code 31 = .ok (.istore_n 2, 1) := by decide +kernel
theorem d_O_command_32 : decode prog_9_method_18_code 32 = .ok (.iload_n 2, 1) := by decide +kernel
theorem d_O_command_33 : decode prog_9_method_18_code 33 = .ok (.ifCond .eq 12, 3) := by decide +kernel
theorem d_O_command_36 : decode prog_9_method_18_code 36 = .ok (.aload_n 0, 1) := by decide +kernel
theorem d_O_command_37 : decode prog_9_method_18_code 37 = .ok (.invokevirtual 109, 3) := by decide +kernel
theorem d_O_command_40 : decode prog_9_method_18_code 40 = .ok (.ifCond .ne 5, 3) := by decide +kernel
theorem d_O_command_43 : decode prog_9_method_18_code 43 = .ok (.iconst 0, 1) := by decide +kernel
theorem d_O_command_44 : decode prog_9_method_18_code 44 = .ok (.ireturn, 1) := by decide +kernel
theorem d_O_command_45 : decode prog_9_method_18_code 45 = .ok (.iload_n 2, 1) := by decide +kernel
theorem d_O_command_46 : decode prog_9_method_18_code 46 = .ok (.ifCond .eq 10, 3) := by decide +kernel
theorem d_O_command_49 : decode prog_9_method_18_code 49 = .ok (.aload_n 0, 1) := by decide +kernel
theorem d_O_command_50 : decode prog_9_method_18_code 50 = .ok (.getfield 100, 3) := by decide +kernel
theorem d_O_command_53 : decode prog_9_method_18_code 53 = .ok (.goto 7, 3) := by decide +kernel
theorem d_O_command_56 : decode prog_9_method_18_code 56 = .ok (.aload_n 0, 1) := by decide +kernel
theorem d_O_command_57 : decode prog_9_method_18_code 57 = .ok (.getfield 103, 3) := by decide +kernel
theorem d_O_command_60 : decode prog_9_method_18_code 60 = .ok (.istore_n 3, 1) := by decide +kernel
theorem d_O_command_61 : decode prog_9_method_18_code 61 = .ok (.iload_n 1, 1) := by decide +kernel
theorem d_O_command_62 : decode prog_9_method_18_code 62 = .ok (.ifCond .eq 36, 3) := by decide +kernel
theorem d_O_command_65 : decode prog_9_method_18_code 65 = .ok (.aload_n 0, 1) := by decide +kernel
theorem d_O_command_66 : decode prog_9_method_18_code 66 = .ok (.getfield 113, 3) := by decide +kernel
theorem d_O_command_69 : decode prog_9_method_18_code 69 = .ok (.iload_n 1, 1) := by decide +kernel
theorem d_O_command_70 : decode prog_9_method_18_code 70 = .ok (.iadd, 1) := by decide +kernel
theorem d_O_command_71 : decode prog_9_method_18_code 71 = .ok (.sipush 256, 3) := by decide +kernel
theorem d_O_command_74 : decode prog_9_method_18_code 74 = .ok (.if_icmp .gt 24, 3) := by decide +kernel
theorem d_O_command_77 : decode prog_9_method_18_code 77 = .ok (.iload_n 3, 1) := by decide +kernel
theorem d_O_command_78 : decode prog_9_method_18_code 78 = .ok (.iload_n 1, 1) := by decide +kernel
theorem d_O_command_79 : decode prog_9_method_18_code 79 = .ok (.iadd, 1) := by decide +kernel
theorem d_O_command_80 : decode prog_9_method_18_code 80 = .ok (.iload_n 2, 1) := by decide +kernel
theorem d_O_command_81 : decode prog_9_method_18_code 81 = .ok (.ifCond .eq 10, 3) := by decide +kernel
theorem d_O_command_84 : decode prog_9_method_18_code 84 = .ok (.aload_n 0, 1) := by decide +kernel
theorem d_O_command_85 : decode prog_9_method_18_code 85 = .ok (.getfield 116, 3) := by decide +kernel
theorem d_O_command_88 : decode prog_9_method_18_code 88 = .ok (.goto 7, 3) := by decide +kernel
theorem d_O_command_91 : decode prog_9_method_18_code 91 = .ok (.aload_n 0, 1) := by decide +kernel
theorem d_O_command_92 : decode prog_9_method_18_code 92 = .ok (.getfield 106, 3) := by decide +kernel
theorem d_O_command_95 : decode prog_9_method_18_code 95 = .ok (.if_icmp .le 5, 3) := by decide +kernel
theorem d_O_command_98 : decode prog_9_method_18_code 98 = .ok (.iconst 0, 1) := by decide +kernel
theorem d_O_command_99 : decode prog_9_method_18_code 99 = .ok (.ireturn, 1) := by decide +kernel
theorem d_O_command_100 : decode prog_9_method_18_code 100 = .ok (.iconst 0, 1) := by decide +kernel
theorem d_O_command_101 : decode prog_9_method_18_code 101 = .ok (.istore 4, 2) := by decide +kernel
theorem d_O_command_103 : decode prog_9_method_18_code 103 = .ok (.iload 4, 2) := by decide +kernel
theorem d_O_command_105 : decode prog_9_method_18_code 105 = .ok (.iload_n 1, 1) := by decide +kernel
theorem d_O_command_106 : decode prog_9_method_18_code 106 = .ok (.if_icmp .ge 53, 3) := by decide +kernel
theorem d_O_command_109 : decode prog_9_method_18_code 109 = .ok (.aload_n 0, 1) := by decide +kernel
theorem d_O_command_110 : decode prog_9_method_18_code 110 = .ok (.getfield 41, 3) := by decide +kernel
theorem d_O_command_113 : decode prog_9_method_18_code 113 = .ok (.aload_n 0, 1) := by decide +kernel
theorem d_O_command_114 : decode prog_9_method_18_code 114 = .ok (.getfield 113, 3) := by decide +kernel
theorem d_O_command_117 : decode prog_9_method_18_code 117 = .ok (.iload_n 2, 1) := by decide +kernel
theorem d_O_command_118 : decode prog_9_method_18_code 118 = .ok (.ifCond .eq 15, 3) := by decide +kernel
theorem d_O_command_121 : decode prog_9_method_18_code 121 = .ok (.aload_n 0, 1) := by decide +kernel
theorem d_O_command_122 : decode prog_9_method_18_code 122 = .ok (.getfield 44, 3) := by decide +kernel
theorem d_O_command_125 : decode prog_9_method_18_code 125 = .ok (.iload_n 3, 1) := by decide +kernel
theorem d_O_command_126 : decode prog_9_method_18_code 126 = .ok (.iload 4, 2) := by decide +kernel
theorem d_O_command_128 : decode prog_9_method_18_code 128 = .ok (.iadd, 1) := by decide +kernel
theorem d_O_command_129 : decode prog_9_method_18_code 129 = .ok (.baload, 1) := by decide +kernel
theorem d_O_command_130 : decode prog_9_method_18_code 130 = .ok (.goto 12, 3) := by decide +kernel
theorem d_O_command_133 : decode prog_9_method_18_code 133 = .ok (.aload_n 0, 1) := by decide +kernel
theorem d_O_command_134 : decode prog_9_method_18_code 134 = .ok (.getfield 38, 3) := by decide +kernel
theorem d_O_command_137 : decode prog_9_method_18_code 137 = .ok (.iload_n 3, 1) := by decide +kernel
theorem d_O_command_138 : decode prog_9_method_18_code 138 = .ok (.iload 4, 2) := by decide +kernel
theorem d_O_command_140 : decode prog_9_method_18_code 140 = .ok (.iadd, 1) := by decide +kernel
theorem d_O_command_141 : decode prog_9_method_18_code 141 = .ok (.baload, 1) := by decide +kernel
theorem d_O_command_142 : decode prog_9_method_18_code 142 = .ok (.bastore, 1) := by decide +kernel
theorem d_O_command_143 : decode prog_9_method_18_code 143 = .ok (.aload_n 0, 1) := by decide +kernel
theorem d_O_command_144 : decode prog_9_method_18_code 144 = .ok (.dup, 1) := by decide +kernel
theorem d_O_command_145 : decode prog_9_method_18_code 145 = .ok (.getfield 113, 3) := by decide +kernel
theorem d_O_command_148 : decode prog_9_method_18_code 148 = .ok (.iconst 1, 1) := by decide +kernel
theorem d_O_command_149 : decode prog_9_method_18_code 149 = .ok (.iadd, 1) := by decide +kernel
theorem d_O_command_150 : decode prog_9_method_18_code 150 = .ok (.putfield 113, 3) := by decide +kernel
theorem d_O_command_153 : decode prog_9_method_18_code 153 = .ok (.iinc 4 1, 3) := by decide +kernel
theorem d_O_command_156 : decode prog_9_method_18_code 156 = .ok (.goto (-53), 3) := by decide +kernel
theorem d_O_command_159 : decode prog_9_method_18_code 159 = .ok (.aload_n 0, 1) := by decide +kernel
theorem d_O_command_160 : decode prog_9_method_18_code 160 = .ok (.iload_n 2, 1) := by decide +kernel
theorem d_O_command_161 : decode prog_9_method_18_code 161 = .ok (.ifCond .eq 10, 3) := by decide +kernel
theorem d_O_command_164 : decode prog_9_method_18_code 164 = .ok (.aload_n 0, 1) := by decide +kernel
theorem d_O_command_165 : decode prog_9_method_18_code 165 = .ok (.getfield 103, 3) := by decide +kernel
theorem d_O_command_168 : decode prog_9_method_18_code 168 = .ok (.goto 9, 3) := by decide +kernel
theorem d_O_command_171 : decode prog_9_method_18_code 171 = .ok (.aload_n 0, 1) := by decide +kernel
theorem d_O_command_172 : decode prog_9_method_18_code 172 = .ok (.getfield 103, 3) := by decide +kernel
theorem d_O_command_175 : decode prog_9_method_18_code 175 = .ok (.iload_n 1, 1) := by decide +kernel
theorem d_O_command_176 : decode prog_9_method_18_code 176 = .ok (.iadd, 1) := by decide +kernel
theorem d_O_command_177 : decode prog_9_method_18_code 177 = .ok (.putfield 103, 3) := by decide +kernel
theorem d_O_command_180 : decode prog_9_method_18_code 180 = .ok (.iconst 1, 1) := by decide +kernel
theorem d_O_command_181 : decode prog_9_method_18_code 181 = .ok (.ireturn, 1) := by decide +kernel
theorem d_O_commit_0 : decode prog_9_method_27_code 0 = .ok (.aload_n 0, 1) := by decide +kernel
theorem d_O_commit_1 : decode prog_9_method_27_code 1 = .ok (.iconst 1, 1) := by decide +kernel
theorem d_O_commit_2 : decode prog_9_method_27_code 2 = .ok (.invokevirtual 72, 3) := by decide +kernel
theorem d_O_commit_5 : decode prog_9_method_27_code 5 = .ok (.ifCond .eq 22, 3) := by decide +kernel
theorem d_O_commit_8 : decode prog_9_method_27_code 8 = .ok (.aload_n 0, 1) := by decide +kernel
theorem d_O_commit_9 : decode prog_9_method_27_code 9 = .ok (.iload_n 1, 1) := by decide +kernel
theorem d_O_commit_10 : decode prog_9_method_27_code 10 = .ok (.invokevirtual 79, 3) := by decide +kernel
theorem d_O_commit_13 : decode prog_9_method_27_code 13 = .ok (.ifCond .eq 14, 3) := by decide +kernel
theorem d_O_commit_16 : decode prog_9_method_27_code 16 = .ok (.aload_n 0, 1) := by decide +kernel
theorem d_O_commit_17 : decode prog_9_method_27_code 17 = .ok (.getfield 25, 3) := by decide +kernel
theorem d_O_commit_20 : decode prog_9_method_27_code 20 = .ok (.iload_n 1, 1) := by decide +kernel
theorem d_O_commit_21 : decode prog_9_method_27_code 21 = .ok (.iaload, 1) := by decide +kernel
theorem d_O_commit_22 : decode prog_9_method_27_code 22 = .ok (.bipush 64, 2) := by decide +kernel
theorem d_O_commit_24 : decode prog_9_method_27_code 24 = .ok (.if_icmp .ne 16, 3) := by decide +kernel
theorem d_O_commit_27 : decode prog_9_method_27_code 27 = .ok (.aload_n 0, 1) := by decide +kernel
theorem d_O_commit_28 : decode prog_9_method_27_code 28 = .ok (.getfield 62, 3) := by decide +kernel
theorem d_O_commit_31 : decode prog_9_method_27_code 31 = .ok (.ifCond .ne 7, 3) := by decide +kernel
theorem d_O_commit_34 : decode prog_9_method_27_code 34 = .ok (.iconst (-1), 1) := by decide +kernel
theorem d_O_commit_35 : decode prog_9_method_27_code 35 = .ok (.goto 4, 3) := by decide +kernel
theorem d_O_commit_38 : decode prog_9_method_27_code 38 = .ok (.iconst 0, 1) := by decide +kernel
theorem d_O_commit_39 : decode prog_9_method_27_code 39 = .ok (.ireturn, 1) := by decide +kernel
theorem d_O_commit_40 : decode prog_9_method_27_code 40 = .ok (.aload_n 0, 1) := by decide +kernel
theorem d_O_commit_41 : decode prog_9_method_27_code 41 = .ok (.getfield 25, 3) := by decide +kernel
theorem d_O_commit_44 : decode prog_9_method_27_code 44 = .ok (.iload_n 1, 1) := by decide +kernel
theorem d_O_commit_45 : decode prog_9_method_27_code 45 = .ok (.iaload, 1) := by decide +kernel
theorem d_O_commit_46 : decode prog_9_method_27_code 46 = .ok (.istore_n 3, 1) := by decide +kernel
theorem d_O_commit_47 : decode prog_9_method_27_code 47 = .ok (.aload_n 0, 1) := by decide +kernel
theorem d_O_commit_48 : decode prog_9_method_27_code 48 = .ok (.iconst 0, 1) := by decide +kernel
theorem d_O_commit_49 : decode prog_9_method_27_code 49 = .ok (.putfield 113, 3) := by decide +kernel
theorem d_O_commit_52 : decode prog_9_method_27_code 52 = .ok (.iload_n 3, 1) := by decide +kernel
theorem d_O_commit_53 : decode prog_9_method_27_code 53 = .ok (.ifCond .le 18, 3) := by decide +kernel
theorem d_O_commit_56 : decode prog_9_method_27_code 56 = .ok (.aload_n 0, 1) := by decide +kernel
theorem d_O_commit_57 : decode prog_9_method_27_code 57 = .ok (.iload_n 1, 1) := by decide +kernel
theorem d_O_commit_58 : decode prog_9_method_27_code 58 = .ok (.iload_n 3, 1) := by decide +kernel
theorem d_O_commit_59 : decode prog_9_method_27_code 59 = .ok (.iload_n 3, 1) := by decide +kernel
theorem d_O_commit_60 : decode prog_9_method_27_code 60 = .ok (.iconst 1, 1) := by decide +kernel
theorem d_O_commit_61 : decode prog_9_method_27_code 61 = .ok (.isub, 1) := by decide +kernel
theorem d_O_commit_62 : decode prog_9_method_27_code 62 = .ok (.iand, 1) := by decide +kernel
theorem d_O_commit_63 : decode prog_9_method_27_code 63 = .ok (.invokevirtual 142, 3) := by decide +kernel
theorem d_O_commit_66 : decode prog_9_method_27_code 66 = .ok (.ifCond .ne 5, 3) := by decide +kernel
theorem d_O_commit_69 : decode prog_9_method_27_code 69 = .ok (.iconst (-1), 1) := by decide +kernel
theorem d_O_commit_70 : decode prog_9_method_27_code 70 = .ok (.ireturn, 1) := by decide +kernel
theorem d_O_commit_71 : decode prog_9_method_27_code 71 = .ok (.aload_n 0, 1) := by decide +kernel
theorem d_O_commit_72 : decode prog_9_method_27_code 72 = .ok (.invokevirtual 145, 3) := by decide +kernel
theorem d_O_commit_75 : decode prog_9_method_27_code 75 = .ok (.aload_n 0, 1) := by decide +kernel
theorem d_O_commit_76 : decode prog_9_method_27_code 76 = .ok (.getfield 125, 3) := by decide +kernel
theorem d_O_commit_79 : decode prog_9_method_27_code 79 = .ok (.invokestatic 82, 3) := by decide +kernel
theorem d_O_commit_82 : decode prog_9_method_27_code 82 = .ok (.aload_n 0, 1) := by decide +kernel
theorem d_O_commit_83 : decode prog_9_method_27_code 83 = .ok (.invokevirtual 148, 3) := by decide +kernel
theorem d_O_commit_86 : decode prog_9_method_27_code 86 = .ok (.if_icmp .le 5, 3) := by decide +kernel
theorem d_O_commit_89 : decode prog_9_method_27_code 89 = .ok (.iconst (-1), 1) := by decide +kernel
theorem d_O_commit_90 : decode prog_9_method_27_code 90 = .ok (.ireturn, 1) := by decide +kernel
theorem d_O_commit_91 : decode prog_9_method_27_code 91 = .ok (.aload_n 0, 1) := by decide +kernel
theorem d_O_commit_92 : decode prog_9_method_27_code 92 = .ok (.aload_n 0, 1) := by decide +kernel
theorem d_O_commit_93 : decode prog_9_method_27_code 93 = .ok (.getfield 125, 3) := by decide +kernel
theorem d_O_commit_96 : decode prog_9_method_27_code 96 = .ok (.invokestatic 82, 3) := by decide +kernel
theorem d_O_commit_99 : decode prog_9_method_27_code 99 = .ok (.iconst 1, 1) := by decide +kernel
theorem d_O_commit_100 : decode prog_9_method_27_code 100 = .ok (.iadd, 1) := by decide +kernel
theorem d_O_commit_101 : decode prog_9_method_27_code 101 = .ok (.invokevirtual 97, 3) := by decide +kernel
theorem d_O_commit_104 : decode prog_9_method_27_code 104 = .ok (.ifCond .ne 5, 3) := by decide +kernel
theorem d_O_commit_107 : decode prog_9_method_27_code 107 = .ok (.iconst 0, 1) := by decide +kernel
theorem d_O_commit_108 : decode prog_9_method_27_code 108 = .ok (.ireturn, 1) := by decide +kernel
theorem d_O_commit_109 : decode prog_9_method_27_code 109 = .ok (.bipush 64, 2) := by decide +kernel
theorem d_O_commit_111 : decode prog_9_method_27_code 111 = .ok (.iload_n 1, 1) := by decide +kernel
theorem d_O_commit_112 : decode prog_9_method_27_code 112 = .ok (.imul, 1) := by decide +kernel
theorem d_O_commit_113 : decode prog_9_method_27_code 113 = .ok (.iload_n 3, 1) := by decide +kernel
theorem d_O_commit_114 : decode prog_9_method_27_code 114 = .ok (.iadd, 1) := by decide +kernel
theorem d_O_commit_115 : decode prog_9_method_27_code 115 = .ok (.istore 4, 2) := by decide +kernel
theorem d_O_commit_117 : decode prog_9_method_27_code 117 = .ok (.aload_n 0, 1) := by decide +kernel
theorem d_O_commit_118 : decode prog_9_method_27_code 118 = .ok (.iload 4, 2) := by decide +kernel
theorem d_O_commit_120 : decode prog_9_method_27_code 120 = .ok (.invokevirtual 86, 3) := by decide +kernel
theorem d_O_commit_123 : decode prog_9_method_27_code 123 = .ok (.istore 5, 2) := by decide +kernel
theorem d_O_commit_125 : decode prog_9_method_27_code 125 = .ok (.sipush 16383, 3) := by decide +kernel
theorem d_O_commit_128 : decode prog_9_method_27_code 128 = .ok (.istore 6, 2) := by decide +kernel
theorem d_O_commit_130 : decode prog_9_method_27_code 130 = .ok (.iload 6, 2) := by decide +kernel
theorem d_O_commit_132 : decode prog_9_method_27_code 132 = .ok (.iload 5, 2) := by decide +kernel
theorem d_O_commit_134 : decode prog_9_method_27_code 134 = .ok (.aload_n 0, 1) := by decide +kernel
theorem d_O_commit_135 : decode prog_9_method_27_code 135 = .ok (.getfield 125, 3) := by decide +kernel
theorem d_O_commit_138 : decode prog_9_method_27_code 138 = .ok (.iadd, 1) := by decide +kernel
theorem d_O_commit_139 : decode prog_9_method_27_code 139 = .ok (.if_icmp .lt 28, 3) := by decide +kernel
theorem d_O_commit_142 : decode prog_9_method_27_code 142 = .ok (.aload_n 0, 1) := by decide +kernel
theorem d_O_commit_143 : decode prog_9_method_27_code 143 = .ok (.getfield 38, 3) := by decide +kernel
theorem d_O_commit_146 : decode prog_9_method_27_code 146 = .ok (.iload 6, 2) := by decide +kernel
theorem d_O_commit_148 : decode prog_9_method_27_code 148 = .ok (.aload_n 0, 1) := by decide +kernel
theorem d_O_commit_149 : decode prog_9_method_27_code 149 = .ok (.getfield 38, 3) := by decide +kernel
theorem d_O_commit_152 : decode prog_9_method_27_code 152 = .ok (.iload 6, 2) := by decide +kernel
theorem d_O_commit_154 : decode prog_9_method_27_code 154 = .ok (.aload_n 0, 1) := by decide +kernel
theorem d_O_commit_155 : decode prog_9_method_27_code 155 = .ok (.getfield 125, 3) := by decide +kernel
theorem d_O_commit_158 : decode prog_9_method_27_code 158 = .ok (.isub, 1) := by decide +kernel
theorem d_O_commit_159 : decode prog_9_method_27_code 159 = .ok (.baload, 1) := by decide +kernel
theorem d_O_commit_160 : decode prog_9_method_27_code 160 = .ok (.bastore, 1) := by decide +kernel
theorem d_O_commit_161 : decode prog_9_method_27_code 161 = .ok (.iinc 6 (-1), 3) := by decide +kernel
theorem d_O_commit_164 : decode prog_9_method_27_code 164 = .ok (.goto (-34), 3) := by decide +kernel
theorem d_O_commit_167 : decode prog_9_method_27_code 167 = .ok (.iconst 0, 1) := by decide +kernel
theorem d_O_commit_168 : decode prog_9_method_27_code 168 = .ok (.istore 6, 2) := by decide +kernel
theorem d_O_commit_170 : decode prog_9_method_27_code 170 = .ok (.iload 6, 2) := by decide +kernel
theorem d_O_commit_172 : decode prog_9_method_27_code 172 = .ok (.aload_n 0, 1) := by decide +kernel
theorem d_O_commit_173 : decode prog_9_method_27_code 173 = .ok (.getfield 125, 3) := by decide +kernel
theorem d_O_commit_176 : decode prog_9_method_27_code 176 = .ok (.if_icmp .ge 26, 3) := by decide +kernel
theorem d_O_commit_179 : decode prog_9_method_27_code 179 = .ok (.aload_n 0, 1) := by decide +kernel
theorem d_O_commit_180 : decode prog_9_method_27_code 180 = .ok (.getfield 38, 3) := by decide +kernel
theorem d_O_commit_183 : decode prog_9_method_27_code 183 = .ok (.iload 5, 2) := by decide +kernel
theorem d_O_commit_185 : decode prog_9_method_27_code 185 = .ok (.iload 6, 2) := by decide +kernel
theorem d_O_commit_187 : decode prog_9_method_27_code 187 = .ok (.iadd, 1) := by decide +kernel
theorem d_O_commit_188 : decode prog_9_method_27_code 188 = .ok (.aload_n 0, 1) := by decide +kernel
theorem d_O_commit_189 : decode prog_9_method_27_code 189 = .ok (.getfield 59, 3) := by decide +kernel
theorem d_O_commit_192 : decode prog_9_method_27_code 192 = .ok (.iload 6, 2) := by decide +kernel
theorem d_O_commit_194 : decode prog_9_method_27_code 194 = .ok (.baload, 1) := by decide +kernel
theorem d_O_commit_195 : decode prog_9_method_27_code 195 = .ok (.bastore, 1) := by decide +kernel
theorem d_O_commit_196 : decode prog_9_method_27_code 196 = .ok (.iinc 6 1, 3) := by decide +kernel
theorem d_O_commit_199 : decode prog_9_method_27_code 199 = .ok (.goto (-29), 3) := by decide +kernel
theorem d_O_commit_202 : decode prog_9_method_27_code 202 = .ok (.aload_n 0, 1) := by decide +kernel
theorem d_O_commit_203 : decode prog_9_method_27_code 203 = .ok (.getfield 28, 3) := by decide +kernel
theorem d_O_commit_206 : decode prog_9_method_27_code 206 = .ok (.iload 4, 2) := by decide +kernel
theorem d_O_commit_208 : decode prog_9_method_27_code 208 = .ok (.aload_n 0, 1) := by decide +kernel
theorem d_O_commit_209 : decode prog_9_method_27_code 209 = .ok (.getfield 125, 3) := by decide +kernel
theorem d_O_commit_212 : decode prog_9_method_27_code 212 = .ok (.i2s, 1) := by decide +kernel
theorem d_O_commit_213 : decode prog_9_method_27_code 213 = .ok (.sastore, 1) := by decide +kernel
theorem d_O_commit_214 : decode prog_9_method_27_code 214 = .ok (.aload_n 0, 1) := by decide +kernel
theorem d_O_commit_215 : decode prog_9_method_27_code 215 = .ok (.getfield 32, 3) := by decide +kernel
theorem d_O_commit_218 : decode prog_9_method_27_code 218 = .ok (.iload 4, 2) := by decide +kernel
theorem d_O_commit_220 : decode prog_9_method_27_code 220 = .ok (.iload_n 2, 1) := by decide +kernel
theorem d_O_commit_221 : decode prog_9_method_27_code 221 = .ok (.iastore, 1) := by decide +kernel
theorem d_O_commit_222 : decode prog_9_method_27_code 222 = .ok (.aload_n 0, 1) := by decide +kernel
theorem d_O_commit_223 : decode prog_9_method_27_code 223 = .ok (.getfield 35, 3) := by decide +kernel
theorem d_O_commit_226 : decode prog_9_method_27_code 226 = .ok (.iload 4, 2) := by decide +kernel
theorem d_O_commit_228 : decode prog_9_method_27_code 228 = .ok (.aload_n 0, 1) := by decide +kernel
theorem d_O_commit_229 : decode prog_9_method_27_code 229 = .ok (.aload_n 0, 1) := by decide +kernel
theorem d_O_commit_230 : decode prog_9_method_27_code 230 = .ok (.getfield 13, 3) := by decide +kernel
theorem d_O_commit_233 : decode prog_9_method_27_code 233 = .ok (.aload_n 0, 1) := by decide +kernel
theorem d_O_commit_234 : decode prog_9_method_27_code 234 = .ok (.getfield 69, 3) := by decide +kernel
theorem d_O_commit_237 : decode prog_9_method_27_code 237 = .ok (.invokevirtual 152, 3) := by decide +kernel
theorem d_O_commit_240 : decode prog_9_method_27_code 240 = .ok (.iastore, 1) := by decide +kernel
theorem d_O_commit_241 : decode prog_9_method_27_code 241 = .ok (.aload_n 0, 1) := by decide +kernel
theorem d_O_commit_242 : decode prog_9_method_27_code 242 = .ok (.getfield 25, 3) := by decide +kernel
theorem d_O_commit_245 : decode prog_9_method_27_code 245 = .ok (.iload_n 1, 1) := by decide +kernel
theorem d_O_commit_246 : decode prog_9_method_27_code 246 = .ok (.dup2, 1) := by decide +kernel
theorem d_O_commit_247 : decode prog_9_method_27_code 247 = .ok (.iaload, 1) := by decide +kernel
theorem d_O_commit_248 : decode prog_9_method_27_code 248 = .ok (.iconst 1, 1) := by decide +kernel
theorem d_O_commit_249 : decode prog_9_method_27_code 249 = .ok (.iadd, 1) := by decide +kernel
theorem d_O_commit_250 : decode prog_9_method_27_code 250 = .ok (.iastore, 1) := by decide +kernel
theorem d_O_commit_251 : decode prog_9_method_27_code 251 = .ok (.aload_n 0, 1) := by decide +kernel
theorem d_O_commit_252 : decode prog_9_method_27_code 252 = .ok (.iconst 0, 1) := by decide +kernel
theorem d_O_commit_253 : decode prog_9_method_27_code 253 = .ok (.putfield 69, 3) := by decide +kernel
theorem d_O_commit_256 : decode prog_9_method_27_code 256 = .ok (.iload_n 3, 1) := by decide +kernel
theorem d_O_commit_257 : decode prog_9_method_27_code 257 = .ok (.ireturn, 1) := by decide +kernel
theorem d_O_common_0 : decode prog_9_method_38_code 0 = .ok (.aload_n 0, 1) := by decide +kernel
theorem d_O_common_1 : decode prog_9_method_38_code 1 = .ok (.iconst 1, 1) := by decide +kernel
theorem d_O_common_2 : decode prog_9_method_38_code 2 = .ok (.invokevirtual 72, 3) := by decide +kernel
theorem d_O_common_5 : decode prog_9_method_38_code 5 = .ok (.ifCond .eq 32, 3) := by decide +kernel
theorem d_O_common_8 : decode prog_9_method_38_code 8 = .ok (.aload_n 0, 1) := by decide +kernel
theorem d_O_common_9 : decode prog_9_method_38_code 9 = .ok (.iload_n 1, 1) := by decide +kernel
theorem d_O_common_10 : decode prog_9_method_38_code 10 = .ok (.iload_n 2, 1) := by decide +kernel
theorem d_O_common_11 : decode prog_9_method_38_code 11 = .ok (.invokevirtual 156, 3) := by decide +kernel
theorem d_O_common_14 : decode prog_9_method_38_code 14 = .ok (.ifCond .eq 23, 3) := by decide +kernel
theorem d_O_common_17 : decode prog_9_method_38_code 17 = .ok (.aload_n 0, 1) := by decide +kernel
theorem d_O_common_18 : decode prog_9_method_38_code 18 = .ok (.iload_n 1, 1) := by decide +kernel
theorem d_O_common_19 : decode prog_9_method_38_code 19 = .ok (.iload_n 3, 1) := by decide +kernel
theorem d_O_common_20 : decode prog_9_method_38_code 20 = .ok (.invokevirtual 156, 3) := by decide +kernel
theorem d_O_common_23 : decode prog_9_method_38_code 23 = .ok (.ifCond .eq 14, 3) := by decide +kernel
theorem d_O_common_26 : decode prog_9_method_38_code 26 = .ok (.iload 4, 2) := by decide +kernel
theorem d_O_common_28 : decode prog_9_method_38_code 28 = .ok (.ifCond .lt 9, 3) := by decide +kernel
theorem d_O_common_31 : decode prog_9_method_38_code 31 = .ok (.iload 4, 2) := by decide +kernel
theorem d_O_common_33 : decode prog_9_method_38_code 33 = .ok (.iconst 1, 1) := by decide +kernel
theorem d_O_common_34 : decode prog_9_method_38_code 34 = .ok (.if_icmp .le 16, 3) := by decide +kernel
theorem d_O_common_37 : decode prog_9_method_38_code 37 = .ok (.aload_n 0, 1) := by decide +kernel
theorem d_O_common_38 : decode prog_9_method_38_code 38 = .ok (.getfield 62, 3) := by decide +kernel
theorem d_O_common_41 : decode prog_9_method_38_code 41 = .ok (.ifCond .ne 7, 3) := by decide +kernel
theorem d_O_common_44 : decode prog_9_method_38_code 44 = .ok (.iconst (-1), 1) := by decide +kernel
theorem d_O_common_45 : decode prog_9_method_38_code 45 = .ok (.goto 4, 3) := by decide +kernel
theorem d_O_common_48 : decode prog_9_method_38_code 48 = .ok (.iconst 0, 1) := by decide +kernel
theorem d_O_common_49 : decode prog_9_method_38_code 49 = .ok (.ireturn, 1) := by decide +kernel
theorem d_O_common_50 : decode prog_9_method_38_code 50 = .ok (.aload_n 0, 1) := by decide +kernel
theorem d_O_common_51 : decode prog_9_method_38_code 51 = .ok (.iload_n 1, 1) := by decide +kernel
theorem d_O_common_52 : decode prog_9_method_38_code 52 = .ok (.iload_n 2, 1) := by decide +kernel
theorem d_O_common_53 : decode prog_9_method_38_code 53 = .ok (.invokevirtual 142, 3) := by decide +kernel
theorem d_O_common_56 : decode prog_9_method_38_code 56 = .ok (.ifCond .ne 6, 3) := by decide +kernel
theorem d_O_common_59 : decode prog_9_method_38_code 59 = .ok (.bipush (-2), 2) := by decide +kernel
theorem d_O_common_61 : decode prog_9_method_38_code 61 = .ok (.ireturn, 1) := by decide +kernel
theorem d_O_common_62 : decode prog_9_method_38_code 62 = .ok (.aload_n 0, 1) := by decide +kernel
theorem d_O_common_63 : decode prog_9_method_38_code 63 = .ok (.aload_n 0, 1) := by decide +kernel
theorem d_O_common_64 : decode prog_9_method_38_code 64 = .ok (.getfield 113, 3) := by decide +kernel
theorem d_O_common_67 : decode prog_9_method_38_code 67 = .ok (.putfield 165, 3) := by decide +kernel
theorem d_O_common_70 : decode prog_9_method_38_code 70 = .ok (.iconst 0, 1) := by decide +kernel
theorem d_O_common_71 : decode prog_9_method_38_code 71 = .ok (.istore 5, 2) := by decide +kernel
theorem d_O_common_73 : decode prog_9_method_38_code 73 = .ok (.iload 5, 2) := by decide +kernel
theorem d_O_common_75 : decode prog_9_method_38_code 75 = .ok (.aload_n 0, 1) := by decide +kernel
theorem d_O_common_76 : decode prog_9_method_38_code 76 = .ok (.getfield 113, 3) := by decide +kernel
theorem d_O_common_79 : decode prog_9_method_38_code 79 = .ok (.if_icmp .ge 23, 3) := by decide +kernel
theorem d_O_common_82 : decode prog_9_method_38_code 82 = .ok (.aload_n 0, 1) := by decide +kernel
theorem d_O_common_83 : decode prog_9_method_38_code 83 = .ok (.getfield 56, 3) := by decide +kernel
theorem d_O_common_86 : decode prog_9_method_38_code 86 = .ok (.iload 5, 2) := by decide +kernel
theorem d_O_common_88 : decode prog_9_method_38_code 88 = .ok (.aload_n 0, 1) := by decide +kernel
theorem d_O_common_89 : decode prog_9_method_38_code 89 = .ok (.getfield 41, 3) := by decide +kernel
theorem d_O_common_92 : decode prog_9_method_38_code 92 = .ok (.iload 5, 2) := by decide +kernel
theorem d_O_common_94 : decode prog_9_method_38_code 94 = .ok (.baload, 1) := by decide +kernel
theorem d_O_common_95 : decode prog_9_method_38_code 95 = .ok (.bastore, 1) := by decide +kernel
theorem d_O_common_96 : decode prog_9_method_38_code 96 = .ok (.iinc 5 1, 3) := by decide +kernel
theorem d_O_common_99 : decode prog_9_method_38_code 99 = .ok (.goto (-26), 3) := by decide +kernel
theorem d_O_common_102 : decode prog_9_method_38_code 102 = .ok (.aload_n 0, 1) := by decide +kernel
theorem d_O_common_103 : decode prog_9_method_38_code 103 = .ok (.iload_n 1, 1) := by decide +kernel
theorem d_O_common_104 : decode prog_9_method_38_code 104 = .ok (.iload_n 3, 1) := by decide +kernel
theorem d_O_common_105 : decode prog_9_method_38_code 105 = .ok (.invokevirtual 142, 3) := by decide +kernel
theorem d_O_common_108 : decode prog_9_method_38_code 108 = .ok (.ifCond .ne 6, 3) := by decide +kernel
theorem d_O_common_111 : decode prog_9_method_38_code 111 = .ok (.bipush (-2), 2) := by decide +kernel
theorem d_O_common_113 : decode prog_9_method_38_code 113 = .ok (.ireturn, 1) := by decide +kernel
theorem d_O_common_114 : decode prog_9_method_38_code 114 = .ok (.aload_n 0, 1) := by decide +kernel
theorem d_O_common_115 : decode prog_9_method_38_code 115 = .ok (.getfield 113, 3) := by decide +kernel
theorem d_O_common_118 : decode prog_9_method_38_code 118 = .ok (.aload_n 0, 1) := by decide +kernel
theorem d_O_common_119 : decode prog_9_method_38_code 119 = .ok (.getfield 165, 3) := by decide +kernel
theorem d_O_common_122 : decode prog_9_method_38_code 122 = .ok (.if_icmp .ge 10, 3) := by decide +kernel
theorem d_O_common_125 : decode prog_9_method_38_code 125 = .ok (.aload_n 0, 1) := by decide +kernel
theorem d_O_common_126 : decode prog_9_method_38_code 126 = .ok (.getfield 113, 3) := by decide +kernel
theorem d_O_common_129 : decode prog_9_method_38_code 129 = .ok (.goto 7, 3) := by decide +kernel
theorem d_O_common_132 : decode prog_9_method_38_code 132 = .ok (.aload_n 0, 1) := by decide +kernel
theorem d_O_common_133 : decode prog_9_method_38_code 133 = .ok (.getfield 165, 3) := by decide +kernel
theorem d_O_common_136 : decode prog_9_method_38_code 136 = .ok (.istore 5, 2) := by decide +kernel
theorem d_O_common_138 : decode prog_9_method_38_code 138 = .ok (.iconst 0, 1) := by decide +kernel
theorem d_O_common_139 : decode prog_9_method_38_code 139 = .ok (.istore 6, 2) := by decide +kernel
theorem d_O_common_141 : decode prog_9_method_38_code 141 = .ok (.iload 6, 2) := by decide +kernel
theorem d_O_common_143 : decode prog_9_method_38_code 143 = .ok (.iload 5, 2) := by decide +kernel
theorem d_O_common_145 : decode prog_9_method_38_code 145 = .ok (.if_icmp .ge 26, 3) := by decide +kernel
theorem d_O_common_148 : decode prog_9_method_38_code 148 = .ok (.aload_n 0, 1) := by decide +kernel
theorem d_O_common_149 : decode prog_9_method_38_code 149 = .ok (.getfield 41, 3) := by decide +kernel
theorem d_O_common_152 : decode prog_9_method_38_code 152 = .ok (.iload 6, 2) := by decide +kernel
theorem d_O_common_154 : decode prog_9_method_38_code 154 = .ok (.baload, 1) := by decide +kernel
theorem d_O_common_155 : decode prog_9_method_38_code 155 = .ok (.aload_n 0, 1) := by decide +kernel
theorem d_O_common_156 : decode prog_9_method_38_code 156 = .ok (.getfield 56, 3) := by decide +kernel
theorem d_O_common_159 : decode prog_9_method_38_code 159 = .ok (.iload 6, 2) := by decide +kernel
theorem d_O_common_161 : decode prog_9_method_38_code 161 = .ok (.baload, 1) := by decide +kernel
theorem d_O_common_162 : decode prog_9_method_38_code 162 = .ok (.if_icmp .ne 9, 3) := by decide +kernel
theorem d_O_common_165 : decode prog_9_method_38_code 165 = .ok (.iinc 6 1, 3) := by decide +kernel
theorem d_O_common_168 : decode prog_9_method_38_code 168 = .ok (.goto (-27), 3) := by decide +kernel
theorem d_O_common_171 : decode prog_9_method_38_code 171 = .ok (.iconst 0, 1) := by decide +kernel
theorem d_O_common_172 : decode prog_9_method_38_code 172 = .ok (.istore 7, 2) := by decide +kernel
theorem d_O_common_174 : decode prog_9_method_38_code 174 = .ok (.iload 7, 2) := by decide +kernel
theorem d_O_common_176 : decode prog_9_method_38_code 176 = .ok (.iload 5, 2) := by decide +kernel
theorem d_O_common_178 : decode prog_9_method_38_code 178 = .ok (.iload 6, 2) := by decide +kernel
theorem d_O_common_180 : decode prog_9_method_38_code 180 = .ok (.isub, 1) := by decide +kernel
theorem d_O_common_181 : decode prog_9_method_38_code 181 = .ok (.if_icmp .ge 40, 3) := by decide +kernel
theorem d_O_common_184 : decode prog_9_method_38_code 184 = .ok (.aload_n 0, 1) := by decide +kernel
theorem d_O_common_185 : decode prog_9_method_38_code 185 = .ok (.getfield 41, 3) := by decide +kernel
theorem d_O_common_188 : decode prog_9_method_38_code 188 = .ok (.aload_n 0, 1) := by decide +kernel
theorem d_O_common_189 : decode prog_9_method_38_code 189 = .ok (.getfield 113, 3) := by decide +kernel
theorem d_O_common_192 : decode prog_9_method_38_code 192 = .ok (.iconst 1, 1) := by decide +kernel
theorem d_O_common_193 : decode prog_9_method_38_code 193 = .ok (.isub, 1) := by decide +kernel
theorem d_O_common_194 : decode prog_9_method_38_code 194 = .ok (.iload 7, 2) := by decide +kernel
theorem d_O_common_196 : decode prog_9_method_38_code 196 = .ok (.isub, 1) := by decide +kernel
theorem d_O_common_197 : decode prog_9_method_38_code 197 = .ok (.baload, 1) := by decide +kernel
theorem d_O_common_198 : decode prog_9_method_38_code 198 = .ok (.aload_n 0, 1) := by decide +kernel
theorem d_O_common_199 : decode prog_9_method_38_code 199 = .ok (.getfield 56, 3) := by decide +kernel
theorem d_O_common_202 : decode prog_9_method_38_code 202 = .ok (.aload_n 0, 1) := by decide +kernel
theorem d_O_common_203 : decode prog_9_method_38_code 203 = .ok (.getfield 165, 3) := by decide +kernel
theorem d_O_common_206 : decode prog_9_method_38_code 206 = .ok (.iconst 1, 1) := by decide +kernel
theorem d_O_common_207 : decode prog_9_method_38_code 207 = .ok (.isub, 1) := by decide +kernel
theorem d_O_common_208 : decode prog_9_method_38_code 208 = .ok (.iload 7, 2) := by decide +kernel
theorem d_O_common_210 : decode prog_9_method_38_code 210 = .ok (.isub, 1) := by decide +kernel
theorem d_O_common_211 : decode prog_9_method_38_code 211 = .ok (.baload, 1) := by decide +kernel
theorem d_O_common_212 : decode prog_9_method_38_code 212 = .ok (.if_icmp .ne 9, 3) := by decide +kernel
theorem d_O_common_215 : decode prog_9_method_38_code 215 = .ok (.iinc 7 1, 3) := by decide +kernel
theorem d_O_common_218 : decode prog_9_method_38_code 218 = .ok (.goto (-44), 3) := by decide +kernel
theorem d_O_common_221 : decode prog_9_method_38_code 221 = .ok (.iload 4, 2) := by decide +kernel
theorem d_O_common_223 : decode prog_9_method_38_code 223 = .ok (.ifCond .ne 8, 3) := by decide +kernel
theorem d_O_common_226 : decode prog_9_method_38_code 226 = .ok (.iload 6, 2) := by decide +kernel
theorem d_O_common_228 : decode prog_9_method_38_code 228 = .ok (.goto 5, 3) := by decide +kernel
theorem d_O_common_231 : decode prog_9_method_38_code 231 = .ok (.iload 7, 2) := by decide +kernel
theorem d_O_common_233 : decode prog_9_method_38_code 233 = .ok (.ireturn, 1) := by decide +kernel
theorem d_O_cutAfter_0 : decode prog_9_method_40_code 0 = .ok (.aload_n 0, 1) := by decide +kernel
theorem d_O_cutAfter_1 : decode prog_9_method_40_code 1 = .ok (.iconst 1, 1) := by decide +kernel
theorem d_O_cutAfter_2 : decode prog_9_method_40_code 2 = .ok (.invokevirtual 72, 3) := by decide +kernel
theorem d_O_cutAfter_5 : decode prog_9_method_40_code 5 = .ok (.ifCond .eq 7, 3) := by decide +kernel
theorem d_O_cutAfter_8 : decode prog_9_method_40_code 8 = .ok (.iload_n 1, 1) := by decide +kernel
theorem d_O_cutAfter_9 : decode prog_9_method_40_code 9 = .ok (.ifCond .ge 5, 3) := by decide +kernel
theorem d_O_cutAfter_12 : decode prog_9_method_40_code 12 = .ok (.iconst 0, 1) := by decide +kernel
theorem d_O_cutAfter_13 : decode prog_9_method_40_code 13 = .ok (.ireturn, 1) := by decide +kernel
theorem d_O_cutAfter_14 : decode prog_9_method_40_code 14 = .ok (.aload_n 0, 1) := by decide +kernel
theorem d_O_cutAfter_15 : decode prog_9_method_40_code 15 = .ok (.iload_n 1, 1) := by decide +kernel
theorem d_O_cutAfter_16 : decode prog_9_method_40_code 16 = .ok (.putfield 9, 3) := by decide +kernel
theorem d_O_cutAfter_19 : decode prog_9_method_40_code 19 = .ok (.iconst 1, 1) := by decide +kernel
theorem d_O_cutAfter_20 : decode prog_9_method_40_code 20 = .ok (.ireturn, 1) := by decide +kernel
theorem d_O_damage_0 : decode prog_9_method_36_code 0 = .ok (.aload_n 0, 1) := by decide +kernel
theorem d_O_damage_1 : decode prog_9_method_36_code 1 = .ok (.iconst 1, 1) := by decide +kernel
theorem d_O_damage_2 : decode prog_9_method_36_code 2 = .ok (.invokevirtual 72, 3) := by decide +kernel
theorem d_O_damage_5 : decode prog_9_method_36_code 5 = .ok (.ifCond .ne 5, 3) := by decide +kernel
theorem d_O_damage_8 : decode prog_9_method_36_code 8 = .ok (.iconst 0, 1) := by decide +kernel
theorem d_O_damage_9 : decode prog_9_method_36_code 9 = .ok (.ireturn, 1) := by decide +kernel
theorem d_O_damage_10 : decode prog_9_method_36_code 10 = .ok (.aload_n 0, 1) := by decide +kernel
theorem d_O_damage_11 : decode prog_9_method_36_code 11 = .ok (.iload_n 1, 1) := by decide +kernel
theorem d_O_damage_12 : decode prog_9_method_36_code 12 = .ok (.iload_n 2, 1) := by decide +kernel
theorem d_O_damage_13 : decode prog_9_method_36_code 13 = .ok (.invokevirtual 162, 3) := by decide +kernel
theorem d_O_damage_16 : decode prog_9_method_36_code 16 = .ok (.istore 5, 2) := by decide +kernel
theorem d_O_damage_18 : decode prog_9_method_36_code 18 = .ok (.iload 5, 2) := by decide +kernel
theorem d_O_damage_20 : decode prog_9_method_36_code 20 = .ok (.iconst (-1), 1) := by decide +kernel
theorem d_O_damage_21 : decode prog_9_method_36_code 21 = .ok (.if_icmp .eq 18, 3) := by decide +kernel
theorem d_O_damage_24 : decode prog_9_method_36_code 24 = .ok (.iload_n 3, 1) := by decide +kernel
theorem d_O_damage_25 : decode prog_9_method_36_code 25 = .ok (.ifCond .lt 14, 3) := by decide +kernel
theorem d_O_damage_28 : decode prog_9_method_36_code 28 = .ok (.iload_n 3, 1) := by decide +kernel
theorem d_O_damage_29 : decode prog_9_method_36_code 29 = .ok (.aload_n 0, 1) := by decide +kernel
theorem d_O_damage_30 : decode prog_9_method_36_code 30 = .ok (.getfield 28, 3) := by decide +kernel
theorem d_O_damage_33 : decode prog_9_method_36_code 33 = .ok (.iload 5, 2) := by decide +kernel
theorem d_O_damage_35 : decode prog_9_method_36_code 35 = .ok (.saload, 1) := by decide +kernel
theorem d_O_damage_36 : decode prog_9_method_36_code 36 = .ok (.if_icmp .lt 5, 3) := by decide +kernel
theorem d_O_damage_39 : decode prog_9_method_36_code 39 = .ok (.iconst 0, 1) := by decide +kernel
theorem d_O_damage_40 : decode prog_9_method_36_code 40 = .ok (.ireturn, 1) := by decide +kernel
theorem d_O_damage_41 : decode prog_9_method_36_code 41 = .ok (.aload_n 0, 1) := by decide +kernel
theorem d_O_damage_42 : decode prog_9_method_36_code 42 = .ok (.getfield 38, 3) := by decide +kernel
theorem d_O_damage_45 : decode prog_9_method_36_code 45 = .ok (.aload_n 0, 1) := by decide +kernel
theorem d_O_damage_46 : decode prog_9_method_36_code 46 = .ok (.iload 5, 2) := by decide +kernel
theorem d_O_damage_48 : decode prog_9_method_36_code 48 = .ok (.invokevirtual 86, 3) := by decide +kernel
theorem d_O_damage_51 : decode prog_9_method_36_code 51 = .ok (.iload_n 3, 1) := by decide +kernel
theorem d_O_damage_52 : decode prog_9_method_36_code 52 = .ok (.iadd, 1) := by decide +kernel
theorem d_O_damage_53 : decode prog_9_method_36_code 53 = .ok (.dup2, 1) := by decide +kernel
theorem d_O_damage_54 : decode prog_9_method_36_code 54 = .ok (.baload, 1) := by decide +kernel
theorem d_O_damage_55 : decode prog_9_method_36_code 55 = .ok (.iload 4, 2) := by decide +kernel
theorem d_O_damage_57 : decode prog_9_method_36_code 57 = .ok (.i2b, 1) := by decide +kernel
theorem d_O_damage_58 : decode prog_9_method_36_code 58 = .ok (.ixor, 1) := by decide +kernel
theorem d_O_damage_59 : decode prog_9_method_36_code 59 = .ok (.i2b, 1) := by decide +kernel
theorem d_O_damage_60 : decode prog_9_method_36_code 60 = .ok (.bastore, 1) := by decide +kernel
theorem d_O_damage_61 : decode prog_9_method_36_code 61 = .ok (.iconst 1, 1) := by decide +kernel
theorem d_O_damage_62 : decode prog_9_method_36_code 62 = .ok (.ireturn, 1) := by decide +kernel
theorem d_O_drop_0 : decode prog_9_method_13_code 0 = .ok (.aload_n 0, 1) := by decide +kernel
theorem d_O_drop_1 : decode prog_9_method_13_code 1 = .ok (.iload_n 1, 1) := by decide +kernel
theorem d_O_drop_2 : decode prog_9_method_13_code 2 = .ok (.invokevirtual 86, 3) := by decide +kernel
theorem d_O_drop_5 : decode prog_9_method_13_code 5 = .ok (.istore_n 2, 1) := by decide +kernel
theorem d_O_drop_6 : decode prog_9_method_13_code 6 = .ok (.aload_n 0, 1) := by decide +kernel
theorem d_O_drop_7 : decode prog_9_method_13_code 7 = .ok (.getfield 28, 3) := by decide +kernel
theorem d_O_drop_10 : decode prog_9_method_13_code 10 = .ok (.iload_n 1, 1) := by decide +kernel
theorem d_O_drop_11 : decode prog_9_method_13_code 11 = .ok (.saload, 1) := by decide +kernel
theorem d_O_drop_12 : decode prog_9_method_13_code 12 = .ok (.ifCond .le 12, 3) := by decide +kernel
theorem d_O_drop_15 : decode prog_9_method_13_code 15 = .ok (.aload_n 0, 1) := by decide +kernel
theorem d_O_drop_16 : decode prog_9_method_13_code 16 = .ok (.getfield 28, 3) := by decide +kernel
theorem d_O_drop_19 : decode prog_9_method_13_code 19 = .ok (.iload_n 1, 1) := by decide +kernel
theorem d_O_drop_20 : decode prog_9_method_13_code 20 = .ok (.saload, 1) := by decide +kernel
theorem d_O_drop_21 : decode prog_9_method_13_code 21 = .ok (.goto 4, 3) := by decide +kernel
theorem d_O_drop_24 : decode prog_9_method_13_code 24 = .ok (.iconst 0, 1) := by decide +kernel
theorem d_O_drop_25 : decode prog_9_method_13_code 25 = .ok (.istore_n 3, 1) := by decide +kernel
theorem d_O_drop_26 : decode prog_9_method_13_code 26 = .ok (.iload_n 2, 1) := by decide +kernel
theorem d_O_drop_27 : decode prog_9_method_13_code 27 = .ok (.istore 4, 2) := by decide +kernel
theorem d_O_drop_29 : decode prog_9_method_13_code 29 = .ok (.iload 4, 2) := by decide +kernel
theorem d_O_drop_31 : decode prog_9_method_13_code 31 = .ok (.iload_n 3, 1) := by decide +kernel
theorem d_O_drop_32 : decode prog_9_method_13_code 32 = .ok (.iadd, 1) := by decide +kernel
theorem d_O_drop_33 : decode prog_9_method_13_code 33 = .ok (.sipush 16384, 3) := by decide +kernel
theorem d_O_drop_36 : decode prog_9_method_13_code 36 = .ok (.if_icmp .ge 25, 3) := by decide +kernel
theorem d_O_drop_39 : decode prog_9_method_13_code 39 = .ok (.aload_n 0, 1) := by decide +kernel
theorem d_O_drop_40 : decode prog_9_method_13_code 40 = .ok (.getfield 38, 3) := by decide +kernel
theorem d_O_drop_43 : decode prog_9_method_13_code 43 = .ok (.iload 4, 2) := by decide +kernel
theorem d_O_drop_45 : decode prog_9_method_13_code 45 = .ok (.aload_n 0, 1) := by decide +kernel
theorem d_O_drop_46 : decode prog_9_method_13_code 46 = .ok (.getfield 38, 3) := by decide +kernel
theorem d_O_drop_49 : decode prog_9_method_13_code 49 = .ok (.iload 4, 2) := by decide +kernel
theorem d_O_drop_51 : decode prog_9_method_13_code 51 = .ok (.iload_n 3, 1) := by decide +kernel
theorem d_O_drop_52 : decode prog_9_method_13_code 52 = .ok (.iadd, 1) := by decide +kernel
theorem d_O_drop_53 : decode prog_9_method_13_code 53 = .ok (.baload, 1) := by decide +kernel
theorem d_O_drop_54 : decode prog_9_method_13_code 54 = .ok (.bastore, 1) := by decide +kernel
theorem d_O_drop_55 : decode prog_9_method_13_code 55 = .ok (.iinc 4 1, 3) := by decide +kernel
theorem d_O_drop_58 : decode prog_9_method_13_code 58 = .ok (.goto (-29), 3) := by decide +kernel
theorem d_O_drop_61 : decode prog_9_method_13_code 61 = .ok (.aload_n 0, 1) := by decide +kernel
theorem d_O_drop_62 : decode prog_9_method_13_code 62 = .ok (.getfield 28, 3) := by decide +kernel
theorem d_O_drop_65 : decode prog_9_method_13_code 65 = .ok (.iload_n 1, 1) := by decide +kernel
theorem d_O_drop_66 : decode prog_9_method_13_code 66 = .ok (.iconst (-1), 1) := by decide +kernel
theorem d_O_drop_67 : decode prog_9_method_13_code 67 = .ok (.sastore, 1) := by decide +kernel
theorem d_O_drop_68 : decode prog_9_method_13_code 68 = .ok (.return_, 1) := by decide +kernel
theorem d_O_dropDocument_0 : decode prog_9_method_32_code 0 = .ok (.aload_n 0, 1) := by decide +kernel
theorem d_O_dropDocument_1 : decode prog_9_method_32_code 1 = .ok (.iconst 1, 1) := by decide +kernel
theorem d_O_dropDocument_2 : decode prog_9_method_32_code 2 = .ok (.invokevirtual 72, 3) := by decide +kernel
theorem d_O_dropDocument_5 : decode prog_9_method_32_code 5 = .ok (.ifCond .eq 19, 3) := by decide +kernel
theorem d_O_dropDocument_8 : decode prog_9_method_32_code 8 = .ok (.aload_n 0, 1) := by decide +kernel
theorem d_O_dropDocument_9 : decode prog_9_method_32_code 9 = .ok (.iload_n 1, 1) := by decide +kernel
theorem d_O_dropDocument_10 : decode prog_9_method_32_code 10 = .ok (.invokevirtual 79, 3) := by decide +kernel
theorem d_O_dropDocument_13 : decode prog_9_method_32_code 13 = .ok (.ifCond .eq 11, 3) := by decide +kernel
theorem d_O_dropDocument_16 : decode prog_9_method_32_code 16 = .ok (.aload_n 0, 1) := by decide +kernel
theorem d_O_dropDocument_17 : decode prog_9_method_32_code 17 = .ok (.iconst 1, 1) := by decide +kernel
theorem d_O_dropDocument_18 : decode prog_9_method_32_code 18 = .ok (.invokevirtual 97, 3) := by decide +kernel
theorem d_O_dropDocument_21 : decode prog_9_method_32_code 21 = .ok (.ifCond .ne 5, 3) := by decide +kernel
theorem d_O_dropDocument_24 : decode prog_9_method_32_code 24 = .ok (.iconst 0, 1) := by decide +kernel
theorem d_O_dropDocument_25 : decode prog_9_method_32_code 25 = .ok (.ireturn, 1) := by decide +kernel
theorem d_O_dropDocument_26 : decode prog_9_method_32_code 26 = .ok (.aload_n 0, 1) := by decide +kernel
theorem d_O_dropDocument_27 : decode prog_9_method_32_code 27 = .ok (.getfield 17, 3) := by decide +kernel
theorem d_O_dropDocument_30 : decode prog_9_method_32_code 30 = .ok (.iload_n 1, 1) := by decide +kernel
theorem d_O_dropDocument_31 : decode prog_9_method_32_code 31 = .ok (.iconst 1, 1) := by decide +kernel
theorem d_O_dropDocument_32 : decode prog_9_method_32_code 32 = .ok (.bastore, 1) := by decide +kernel
theorem d_O_dropDocument_33 : decode prog_9_method_32_code 33 = .ok (.aload_n 0, 1) := by decide +kernel
theorem d_O_dropDocument_34 : decode prog_9_method_32_code 34 = .ok (.iload_n 1, 1) := by decide +kernel
theorem d_O_dropDocument_35 : decode prog_9_method_32_code 35 = .ok (.invokevirtual 159, 3) := by decide +kernel
theorem d_O_dropDocument_38 : decode prog_9_method_32_code 38 = .ok (.iconst 1, 1) := by decide +kernel
theorem d_O_dropDocument_39 : decode prog_9_method_32_code 39 = .ok (.ireturn, 1) := by decide +kernel
theorem d_O_end_0 : decode prog_9_method_6_code 0 = .ok (.aload_n 0, 1) := by decide +kernel
theorem d_O_end_1 : decode prog_9_method_6_code 1 = .ok (.iconst 1, 1) := by decide +kernel
theorem d_O_end_2 : decode prog_9_method_6_code 2 = .ok (.invokevirtual 72, 3) := by decide +kernel
theorem d_O_end_5 : decode prog_9_method_6_code 5 = .ok (.ifCond .eq 15, 3) := by decide +kernel
theorem d_O_end_8 : decode prog_9_method_6_code 8 = .ok (.iload_n 1, 1) := by decide +kernel
theorem d_O_end_9 : decode prog_9_method_6_code 9 = .ok (.ifCond .lt 11, 3) := by decide +kernel
theorem d_O_end_12 : decode prog_9_method_6_code 12 = .ok (.iload_n 1, 1) := by decide +kernel
theorem d_O_end_13 : decode prog_9_method_6_code 13 = .ok (.aload_n 0, 1) := by decide +kernel
theorem d_O_end_14 : decode prog_9_method_6_code 14 = .ok (.getfield 69, 3) := by decide +kernel
theorem d_O_end_17 : decode prog_9_method_6_code 17 = .ok (.if_icmp .le 5, 3) := by decide +kernel
theorem d_O_end_20 : decode prog_9_method_6_code 20 = .ok (.iconst 0, 1) := by decide +kernel
theorem d_O_end_21 : decode prog_9_method_6_code 21 = .ok (.ireturn, 1) := by decide +kernel
theorem d_O_end_22 : decode prog_9_method_6_code 22 = .ok (.aload_n 0, 1) := by decide +kernel
theorem d_O_end_23 : decode prog_9_method_6_code 23 = .ok (.iload_n 1, 1) := by decide +kernel
theorem d_O_end_24 : decode prog_9_method_6_code 24 = .ok (.putfield 69, 3) := by decide +kernel
theorem d_O_end_27 : decode prog_9_method_6_code 27 = .ok (.iconst 1, 1) := by decide +kernel
theorem d_O_end_28 : decode prog_9_method_6_code 28 = .ok (.ireturn, 1) := by decide +kernel
theorem d_O_feed_0 : decode prog_9_method_5_code 0 = .ok (.aload_n 0, 1) := by decide +kernel
theorem d_O_feed_1 : decode prog_9_method_5_code 1 = .ok (.iconst 1, 1) := by decide +kernel
theorem d_O_feed_2 : decode prog_9_method_5_code 2 = .ok (.invokevirtual 72, 3) := by decide +kernel
theorem d_O_feed_5 : decode prog_9_method_5_code 5 = .ok (.ifCond .eq 16, 3) := by decide +kernel
theorem d_O_feed_8 : decode prog_9_method_5_code 8 = .ok (.aload_n 0, 1) := by decide +kernel
theorem d_O_feed_9 : decode prog_9_method_5_code 9 = .ok (.getfield 69, 3) := by decide +kernel
theorem d_O_feed_12 : decode prog_9_method_5_code 12 = .ok (.bipush 20, 2) := by decide +kernel
theorem d_O_feed_14 : decode prog_9_method_5_code 14 = .ok (.iadd, 1) := by decide +kernel
theorem d_O_feed_15 : decode prog_9_method_5_code 15 = .ok (.sipush 256, 3) := by decide +kernel
theorem d_O_feed_18 : decode prog_9_method_5_code 18 = .ok (.if_icmp .le 5, 3) := by decide +kernel
theorem d_O_feed_21 : decode prog_9_method_5_code 21 = .ok (.iconst 0, 1) := by decide +kernel
theorem d_O_feed_22 : decode prog_9_method_5_code 22 = .ok (.ireturn, 1) := by decide +kernel
theorem d_O_feed_23 : decode prog_9_method_5_code 23 = .ok (.iconst 0, 1) := by decide +kernel
theorem d_O_feed_24 : decode prog_9_method_5_code 24 = .ok (.istore 6, 2) := by decide +kernel
theorem d_O_feed_26 : decode prog_9_method_5_code 26 = .ok (.iload 6, 2) := by decide +kernel
theorem d_O_feed_28 : decode prog_9_method_5_code 28 = .ok (.bipush 20, 2) := by decide +kernel
theorem d_O_feed_30 : decode prog_9_method_5_code 30 = .ok (.if_icmp .ge 90, 3) := by decide +kernel
theorem d_O_feed_33 : decode prog_9_method_5_code 33 = .ok (.iload 6, 2) := by decide +kernel
theorem d_O_feed_35 : decode prog_9_method_5_code 35 = .ok (.iconst 4, 1) := by decide +kernel
theorem d_O_feed_36 : decode prog_9_method_5_code 36 = .ok (.if_icmp .ge 7, 3) := by decide +kernel
theorem d_O_feed_39 : decode prog_9_method_5_code 39 = .ok (.iload_n 1, 1) := by decide +kernel
theorem d_O_feed_40 : decode prog_9_method_5_code 40 = .ok (.goto 39, 3) := by decide +kernel
theorem d_O_feed_43 : decode prog_9_method_5_code 43 = .ok (.iload 6, 2) := by decide +kernel
theorem d_O_feed_45 : decode prog_9_method_5_code 45 = .ok (.bipush 8, 2) := by decide +kernel
theorem d_O_feed_47 : decode prog_9_method_5_code 47 = .ok (.if_icmp .ge 7, 3) := by decide +kernel
theorem d_O_feed_50 : decode prog_9_method_5_code 50 = .ok (.iload_n 2, 1) := by decide +kernel
theorem d_O_feed_51 : decode prog_9_method_5_code 51 = .ok (.goto 28, 3) := by decide +kernel
theorem d_O_feed_54 : decode prog_9_method_5_code 54 = .ok (.iload 6, 2) := by decide +kernel
theorem d_O_feed_56 : decode prog_9_method_5_code 56 = .ok (.bipush 12, 2) := by decide +kernel
theorem d_O_feed_58 : decode prog_9_method_5_code 58 = .ok (.if_icmp .ge 7, 3) := by decide +kernel
theorem d_O_feed_61 : decode prog_9_method_5_code 61 = .ok (.iload_n 3, 1) := by decide +kernel
theorem d_O_feed_62 : decode prog_9_method_5_code 62 = .ok (.goto 17, 3) := by decide +kernel
theorem d_O_feed_65 : decode prog_9_method_5_code 65 = .ok (.iload 6, 2) := by decide +kernel
theorem d_O_feed_67 : decode prog_9_method_5_code 67 = .ok (.bipush 16, 2) := by decide +kernel
theorem d_O_feed_69 : decode prog_9_method_5_code 69 = .ok (.if_icmp .ge 8, 3) := by decide +kernel
theorem d_O_feed_72 : decode prog_9_method_5_code 72 = .ok (.iload 4, 2) := by decide +kernel
theorem d_O_feed_74 : decode prog_9_method_5_code 74 = .ok (.goto 5, 3) := by decide +kernel
theorem d_O_feed_77 : decode prog_9_method_5_code 77 = .ok (.iload 5, 2) := by decide +kernel
theorem d_O_feed_79 : decode prog_9_method_5_code 79 = .ok (.istore 7, 2) := by decide +kernel
theorem d_O_feed_81 : decode prog_9_method_5_code 81 = .ok (.aload_n 0, 1) := by decide +kernel
theorem d_O_feed_82 : decode prog_9_method_5_code 82 = .ok (.getfield 13, 3) := by decide +kernel
theorem d_O_feed_85 : decode prog_9_method_5_code 85 = .ok (.aload_n 0, 1) := by decide +kernel
theorem d_O_feed_86 : decode prog_9_method_5_code 86 = .ok (.getfield 69, 3) := by decide +kernel
theorem d_O_feed_89 : decode prog_9_method_5_code 89 = .ok (.iload 7, 2) := by decide +kernel
theorem d_O_feed_91 : decode prog_9_method_5_code 91 = .ok (.bipush 24, 2) := by decide +kernel
theorem d_O_feed_93 : decode prog_9_method_5_code 93 = .ok (.bipush 8, 2) := by decide +kernel
theorem d_O_feed_95 : decode prog_9_method_5_code 95 = .ok (.iload 6, 2) := by decide +kernel
theorem d_O_feed_97 : decode prog_9_method_5_code 97 = .ok (.iconst 4, 1) := by decide +kernel
theorem d_O_feed_98 : decode prog_9_method_5_code 98 = .ok (.irem, 1) := by decide +kernel
theorem d_O_feed_99 : decode prog_9_method_5_code 99 = .ok (.imul, 1) := by decide +kernel
theorem d_O_feed_100 : decode prog_9_method_5_code 100 = .ok (.isub, 1) := by decide +kernel
theorem d_O_feed_101 : decode prog_9_method_5_code 101 = .ok (.ishr, 1) := by decide +kernel
theorem d_O_feed_102 : decode prog_9_method_5_code 102 = .ok (.i2b, 1) := by decide +kernel
theorem d_O_feed_103 : decode prog_9_method_5_code 103 = .ok (.bastore, 1) := by decide +kernel
theorem d_O_feed_104 : decode prog_9_method_5_code 104 = .ok (.aload_n 0, 1) := by decide +kernel
theorem d_O_feed_105 : decode prog_9_method_5_code 105 = .ok (.dup, 1) := by decide +kernel
theorem d_O_feed_106 : decode prog_9_method_5_code 106 = .ok (.getfield 69, 3) := by decide +kernel
theorem d_O_feed_109 : decode prog_9_method_5_code 109 = .ok (.iconst 1, 1) := by decide +kernel
theorem d_O_feed_110 : decode prog_9_method_5_code 110 = .ok (.iadd, 1) := by decide +kernel
theorem d_O_feed_111 : decode prog_9_method_5_code 111 = .ok (.putfield 69, 3) := by decide +kernel
theorem d_O_feed_114 : decode prog_9_method_5_code 114 = .ok (.iinc 6 1, 3) := by decide +kernel
theorem d_O_feed_117 : decode prog_9_method_5_code 117 = .ok (.goto (-91), 3) := by decide +kernel
theorem d_O_feed_120 : decode prog_9_method_5_code 120 = .ok (.iconst 1, 1) := by decide +kernel
theorem d_O_feed_121 : decode prog_9_method_5_code 121 = .ok (.ireturn, 1) := by decide +kernel
theorem d_O_fetch_0 : decode prog_9_method_28_code 0 = .ok (.aload_n 0, 1) := by decide +kernel
theorem d_O_fetch_1 : decode prog_9_method_28_code 1 = .ok (.iconst 1, 1) := by decide +kernel
theorem d_O_fetch_2 : decode prog_9_method_28_code 2 = .ok (.invokevirtual 72, 3) := by decide +kernel
theorem d_O_fetch_5 : decode prog_9_method_28_code 5 = .ok (.ifCond .eq 12, 3) := by decide +kernel
theorem d_O_fetch_8 : decode prog_9_method_28_code 8 = .ok (.aload_n 0, 1) := by decide +kernel
theorem d_O_fetch_9 : decode prog_9_method_28_code 9 = .ok (.iload_n 1, 1) := by decide +kernel
theorem d_O_fetch_10 : decode prog_9_method_28_code 10 = .ok (.iload_n 2, 1) := by decide +kernel
theorem d_O_fetch_11 : decode prog_9_method_28_code 11 = .ok (.invokevirtual 156, 3) := by decide +kernel
theorem d_O_fetch_14 : decode prog_9_method_28_code 14 = .ok (.ifCond .ne 16, 3) := by decide +kernel
theorem d_O_fetch_17 : decode prog_9_method_28_code 17 = .ok (.aload_n 0, 1) := by decide +kernel
theorem d_O_fetch_18 : decode prog_9_method_28_code 18 = .ok (.getfield 62, 3) := by decide +kernel
theorem d_O_fetch_21 : decode prog_9_method_28_code 21 = .ok (.ifCond .ne 7, 3) := by decide +kernel
theorem d_O_fetch_24 : decode prog_9_method_28_code 24 = .ok (.iconst (-1), 1) := by decide +kernel
theorem d_O_fetch_25 : decode prog_9_method_28_code 25 = .ok (.goto 4, 3) := by decide +kernel
theorem d_O_fetch_28 : decode prog_9_method_28_code 28 = .ok (.iconst 0, 1) := by decide +kernel
theorem d_O_fetch_29 : decode prog_9_method_28_code 29 = .ok (.ireturn, 1) := by decide +kernel
theorem d_O_fetch_30 : decode prog_9_method_28_code 30 = .ok (.aload_n 0, 1) := by decide +kernel
theorem d_O_fetch_31 : decode prog_9_method_28_code 31 = .ok (.iload_n 1, 1) := by decide +kernel
theorem d_O_fetch_32 : decode prog_9_method_28_code 32 = .ok (.iload_n 2, 1) := by decide +kernel
theorem d_O_fetch_33 : decode prog_9_method_28_code 33 = .ok (.invokevirtual 142, 3) := by decide +kernel
theorem d_O_fetch_36 : decode prog_9_method_28_code 36 = .ok (.ifCond .ne 6, 3) := by decide +kernel
theorem d_O_fetch_39 : decode prog_9_method_28_code 39 = .ok (.bipush (-2), 2) := by decide +kernel
theorem d_O_fetch_41 : decode prog_9_method_28_code 41 = .ok (.ireturn, 1) := by decide +kernel
theorem d_O_fetch_42 : decode prog_9_method_28_code 42 = .ok (.iconst 0, 1) := by decide +kernel
theorem d_O_fetch_43 : decode prog_9_method_28_code 43 = .ok (.istore_n 3, 1) := by decide +kernel
theorem d_O_fetch_44 : decode prog_9_method_28_code 44 = .ok (.iload_n 3, 1) := by decide +kernel
theorem d_O_fetch_45 : decode prog_9_method_28_code 45 = .ok (.aload_n 0, 1) := by decide +kernel
theorem d_O_fetch_46 : decode prog_9_method_28_code 46 = .ok (.getfield 113, 3) := by decide +kernel
theorem d_O_fetch_49 : decode prog_9_method_28_code 49 = .ok (.if_icmp .ge 21, 3) := by decide +kernel
theorem d_O_fetch_52 : decode prog_9_method_28_code 52 = .ok (.aload_n 0, 1) := by decide +kernel
theorem d_O_fetch_53 : decode prog_9_method_28_code 53 = .ok (.getfield 47, 3) := by decide +kernel
theorem d_O_fetch_56 : decode prog_9_method_28_code 56 = .ok (.iload_n 3, 1) := by decide +kernel
theorem d_O_fetch_57 : decode prog_9_method_28_code 57 = .ok (.aload_n 0, 1) := by decide +kernel
theorem d_O_fetch_58 : decode prog_9_method_28_code 58 = .ok (.getfield 41, 3) := by decide +kernel
theorem d_O_fetch_61 : decode prog_9_method_28_code 61 = .ok (.iload_n 3, 1) := by decide +kernel
theorem d_O_fetch_62 : decode prog_9_method_28_code 62 = .ok (.baload, 1) := by decide +kernel
theorem d_O_fetch_63 : decode prog_9_method_28_code 63 = .ok (.bastore, 1) := by decide +kernel
theorem d_O_fetch_64 : decode prog_9_method_28_code 64 = .ok (.iinc 3 1, 3) := by decide +kernel
theorem d_O_fetch_67 : decode prog_9_method_28_code 67 = .ok (.goto (-23), 3) := by decide +kernel
theorem d_O_fetch_70 : decode prog_9_method_28_code 70 = .ok (.aload_n 0, 1) := by decide +kernel
theorem d_O_fetch_71 : decode prog_9_method_28_code 71 = .ok (.aload_n 0, 1) := by decide +kernel
theorem d_O_fetch_72 : decode prog_9_method_28_code 72 = .ok (.getfield 113, 3) := by decide +kernel
theorem d_O_fetch_75 : decode prog_9_method_28_code 75 = .ok (.putfield 50, 3) := by decide +kernel
theorem d_O_fetch_78 : decode prog_9_method_28_code 78 = .ok (.aload_n 0, 1) := by decide +kernel
theorem d_O_fetch_79 : decode prog_9_method_28_code 79 = .ok (.iconst 0, 1) := by decide +kernel
theorem d_O_fetch_80 : decode prog_9_method_28_code 80 = .ok (.putfield 53, 3) := by decide +kernel
theorem d_O_fetch_83 : decode prog_9_method_28_code 83 = .ok (.iload_n 2, 1) := by decide +kernel
theorem d_O_fetch_84 : decode prog_9_method_28_code 84 = .ok (.istore_n 3, 1) := by decide +kernel
theorem d_O_fetch_85 : decode prog_9_method_28_code 85 = .ok (.iload_n 3, 1) := by decide +kernel
theorem d_O_fetch_86 : decode prog_9_method_28_code 86 = .ok (.ifCond .le 22, 3) := by decide +kernel
theorem d_O_fetch_89 : decode prog_9_method_28_code 89 = .ok (.aload_n 0, 1) := by decide +kernel
theorem d_O_fetch_90 : decode prog_9_method_28_code 90 = .ok (.dup, 1) := by decide +kernel
theorem d_O_fetch_91 : decode prog_9_method_28_code 91 = .ok (.getfield 53, 3) := by decide +kernel
theorem d_O_fetch_94 : decode prog_9_method_28_code 94 = .ok (.iconst 1, 1) := by decide +kernel
theorem d_O_fetch_95 : decode prog_9_method_28_code 95 = .ok (.iadd, 1) := by decide +kernel
theorem d_O_fetch_96 : decode prog_9_method_28_code 96 = .ok (.putfield 53, 3) := by decide +kernel
theorem d_O_fetch_99 : decode prog_9_method_28_code 99 = .ok (.iload_n 3, 1) := by decide +kernel
theorem d_O_fetch_100 : decode prog_9_method_28_code 100 = .ok (.iload_n 3, 1) := by decide +kernel
theorem d_O_fetch_101 : decode prog_9_method_28_code 101 = .ok (.iconst 1, 1) := by decide +kernel
theorem d_O_fetch_102 : decode prog_9_method_28_code 102 = .ok (.isub, 1) := by decide +kernel
theorem d_O_fetch_103 : decode prog_9_method_28_code 103 = .ok (.iand, 1) := by decide +kernel
theorem d_O_fetch_104 : decode prog_9_method_28_code 104 = .ok (.istore_n 3, 1) := by decide +kernel
theorem d_O_fetch_105 : decode prog_9_method_28_code 105 = .ok (.goto (-20), 3) := by decide +kernel
theorem d_O_fetch_108 : decode prog_9_method_28_code 108 = .ok (.aload_n 0, 1) := by decide +kernel
theorem d_O_fetch_109 : decode prog_9_method_28_code 109 = .ok (.getfield 50, 3) := by decide +kernel
theorem d_O_fetch_112 : decode prog_9_method_28_code 112 = .ok (.ireturn, 1) := by decide +kernel
theorem d_O_free_0 : decode prog_9_method_12_code 0 = .ok (.sipush 512, 3) := by decide +kernel
theorem d_O_free_3 : decode prog_9_method_12_code 3 = .ok (.istore_n 1, 1) := by decide +kernel
theorem d_O_free_4 : decode prog_9_method_12_code 4 = .ok (.iconst 0, 1) := by decide +kernel
theorem d_O_free_5 : decode prog_9_method_12_code 5 = .ok (.istore_n 2, 1) := by decide +kernel
theorem d_O_free_6 : decode prog_9_method_12_code 6 = .ok (.iload_n 2, 1) := by decide +kernel
theorem d_O_free_7 : decode prog_9_method_12_code 7 = .ok (.sipush 512, 3) := by decide +kernel
theorem d_O_free_10 : decode prog_9_method_12_code 10 = .ok (.if_icmp .ge 34, 3) := by decide +kernel
theorem d_O_free_13 : decode prog_9_method_12_code 13 = .ok (.iload_n 1, 1) := by decide +kernel
theorem d_O_free_14 : decode prog_9_method_12_code 14 = .ok (.aload_n 0, 1) := by decide +kernel
theorem d_O_free_15 : decode prog_9_method_12_code 15 = .ok (.getfield 28, 3) := by decide +kernel
theorem d_O_free_18 : decode prog_9_method_12_code 18 = .ok (.iload_n 2, 1) := by decide +kernel
theorem d_O_free_19 : decode prog_9_method_12_code 19 = .ok (.saload, 1) := by decide +kernel
theorem d_O_free_20 : decode prog_9_method_12_code 20 = .ok (.ifCond .le 15, 3) := by decide +kernel
theorem d_O_free_23 : decode prog_9_method_12_code 23 = .ok (.aload_n 0, 1) := by decide +kernel
theorem d_O_free_24 : decode prog_9_method_12_code 24 = .ok (.getfield 28, 3) := by decide +kernel
theorem d_O_free_27 : decode prog_9_method_12_code 27 = .ok (.iload_n 2, 1) := by decide +kernel
theorem d_O_free_28 : decode prog_9_method_12_code 28 = .ok (.saload, 1) := by decide +kernel
theorem d_O_free_29 : decode prog_9_method_12_code 29 = .ok (.invokestatic 82, 3) := by decide +kernel
theorem d_O_free_32 : decode prog_9_method_12_code 32 = .ok (.goto 4, 3) := by decide +kernel
theorem d_O_free_35 : decode prog_9_method_12_code 35 = .ok (.iconst 0, 1) := by decide +kernel
theorem d_O_free_36 : decode prog_9_method_12_code 36 = .ok (.isub, 1) := by decide +kernel
theorem d_O_free_37 : decode prog_9_method_12_code 37 = .ok (.istore_n 1, 1) := by decide +kernel
theorem d_O_free_38 : decode prog_9_method_12_code 38 = .ok (.iinc 2 1, 3) := by decide +kernel
theorem d_O_free_41 : decode prog_9_method_12_code 41 = .ok (.goto (-35), 3) := by decide +kernel
theorem d_O_free_44 : decode prog_9_method_12_code 44 = .ok (.iload_n 1, 1) := by decide +kernel
theorem d_O_free_45 : decode prog_9_method_12_code 45 = .ok (.ireturn, 1) := by decide +kernel
theorem d_O_freeBlocks_0 : decode prog_9_method_39_code 0 = .ok (.aload_n 0, 1) := by decide +kernel
theorem d_O_freeBlocks_1 : decode prog_9_method_39_code 1 = .ok (.iconst 1, 1) := by decide +kernel
theorem d_O_freeBlocks_2 : decode prog_9_method_39_code 2 = .ok (.invokevirtual 72, 3) := by decide +kernel
theorem d_O_freeBlocks_5 : decode prog_9_method_39_code 5 = .ok (.ifCond .eq 10, 3) := by decide +kernel
theorem d_O_freeBlocks_8 : decode prog_9_method_39_code 8 = .ok (.aload_n 0, 1) := by decide +kernel
theorem d_O_freeBlocks_9 : decode prog_9_method_39_code 9 = .ok (.invokevirtual 148, 3) := by decide +kernel
theorem d_O_freeBlocks_12 : decode prog_9_method_39_code 12 = .ok (.goto 4, 3) := by decide +kernel
theorem d_O_freeBlocks_15 : decode prog_9_method_39_code 15 = .ok (.iconst 0, 1) := by decide +kernel
theorem d_O_freeBlocks_16 : decode prog_9_method_39_code 16 = .ok (.ireturn, 1) := by decide +kernel
theorem d_O_inserts_0 : decode prog_9_method_23_code 0 = .ok (.iload_n 1, 1) := by decide +kernel
theorem d_O_inserts_1 : decode prog_9_method_23_code 1 = .ok (.iload_n 2, 1) := by decide +kernel
theorem d_O_inserts_2 : decode prog_9_method_23_code 2 = .ok (.if_icmp .ge 35, 3) := by decide +kernel
theorem d_O_inserts_5 : decode prog_9_method_23_code 5 = .ok (.aload_n 0, 1) := by decide +kernel
theorem d_O_inserts_6 : decode prog_9_method_23_code 6 = .ok (.iconst 2, 1) := by decide +kernel
theorem d_O_inserts_7 : decode prog_9_method_23_code 7 = .ok (.iload_n 2, 1) := by decide +kernel
theorem d_O_inserts_8 : decode prog_9_method_23_code 8 = .ok (.iload_n 1, 1) := by decide +kernel
theorem d_O_inserts_9 : decode prog_9_method_23_code 9 = .ok (.isub, 1) := by decide +kernel
theorem d_O_inserts_10 : decode prog_9_method_23_code 10 = .ok (.imul, 1) := by decide +kernel
theorem d_O_inserts_11 : decode prog_9_method_23_code 11 = .ok (.invokevirtual 131, 3) := by decide +kernel
theorem d_O_inserts_14 : decode prog_9_method_23_code 14 = .ok (.iload_n 1, 1) := by decide +kernel
theorem d_O_inserts_15 : decode prog_9_method_23_code 15 = .ok (.istore_n 3, 1) := by decide +kernel
theorem d_O_inserts_16 : decode prog_9_method_23_code 16 = .ok (.iload_n 3, 1) := by decide +kernel
theorem d_O_inserts_17 : decode prog_9_method_23_code 17 = .ok (.iload_n 2, 1) := by decide +kernel
theorem d_O_inserts_18 : decode prog_9_method_23_code 18 = .ok (.if_icmp .ge 19, 3) := by decide +kernel
theorem d_O_inserts_21 : decode prog_9_method_23_code 21 = .ok (.aload_n 0, 1) := by decide +kernel
theorem d_O_inserts_22 : decode prog_9_method_23_code 22 = .ok (.aload_n 0, 1) := by decide +kernel
theorem d_O_inserts_23 : decode prog_9_method_23_code 23 = .ok (.getfield 13, 3) := by decide +kernel
theorem d_O_inserts_26 : decode prog_9_method_23_code 26 = .ok (.iload_n 3, 1) := by decide +kernel
theorem d_O_inserts_27 : decode prog_9_method_23_code 27 = .ok (.baload, 1) := by decide +kernel
theorem d_O_inserts_28 : decode prog_9_method_23_code 28 = .ok (.invokevirtual 128, 3) := by decide +kernel
theorem d_O_inserts_31 : decode prog_9_method_23_code 31 = .ok (.iinc 3 1, 3) := by decide +kernel
theorem d_O_inserts_34 : decode prog_9_method_23_code 34 = .ok (.goto (-18), 3) := by decide +kernel
theorem d_O_inserts_37 : decode prog_9_method_23_code 37 = .ok (.return_, 1) := by decide +kernel
theorem d_O_isAsked_0 : decode prog_9_method_8_code 0 = .ok (.aload_n 0, 1) := by decide +kernel
theorem d_O_isAsked_1 : decode prog_9_method_8_code 1 = .ok (.iload_n 1, 1) := by decide +kernel
theorem d_O_isAsked_2 : decode prog_9_method_8_code 2 = .ok (.invokevirtual 79, 3) := by decide +kernel
theorem d_O_isAsked_5 : decode prog_9_method_8_code 5 = .ok (.ifCond .eq 27, 3) := by decide +kernel
theorem d_O_isAsked_8 : decode prog_9_method_8_code 8 = .ok (.iload_n 2, 1) := by decide +kernel
theorem d_O_isAsked_9 : decode prog_9_method_8_code 9 = .ok (.aload_n 0, 1) := by decide +kernel
theorem d_O_isAsked_10 : decode prog_9_method_8_code 10 = .ok (.getfield 21, 3) := by decide +kernel
theorem d_O_isAsked_13 : decode prog_9_method_8_code 13 = .ok (.iload_n 1, 1) := by decide +kernel
theorem d_O_isAsked_14 : decode prog_9_method_8_code 14 = .ok (.iaload, 1) := by decide +kernel
theorem d_O_isAsked_15 : decode prog_9_method_8_code 15 = .ok (.if_icmp .lt 17, 3) := by decide +kernel
theorem d_O_isAsked_18 : decode prog_9_method_8_code 18 = .ok (.iload_n 2, 1) := by decide +kernel
theorem d_O_isAsked_19 : decode prog_9_method_8_code 19 = .ok (.aload_n 0, 1) := by decide +kernel
theorem d_O_isAsked_20 : decode prog_9_method_8_code 20 = .ok (.getfield 25, 3) := by decide +kernel
theorem d_O_isAsked_23 : decode prog_9_method_8_code 23 = .ok (.iload_n 1, 1) := by decide +kernel
theorem d_O_isAsked_24 : decode prog_9_method_8_code 24 = .ok (.iaload, 1) := by decide +kernel
theorem d_O_isAsked_25 : decode prog_9_method_8_code 25 = .ok (.if_icmp .ge 7, 3) := by decide +kernel
theorem d_O_isAsked_28 : decode prog_9_method_8_code 28 = .ok (.iconst 1, 1) := by decide +kernel
theorem d_O_isAsked_29 : decode prog_9_method_8_code 29 = .ok (.goto 4, 3) := by decide +kernel
theorem d_O_isAsked_32 : decode prog_9_method_8_code 32 = .ok (.iconst 0, 1) := by decide +kernel
theorem d_O_isAsked_33 : decode prog_9_method_8_code 33 = .ok (.ireturn, 1) := by decide +kernel
theorem d_O_isDocument_0 : decode prog_9_method_7_code 0 = .ok (.iload_n 1, 1) := by decide +kernel
theorem d_O_isDocument_1 : decode prog_9_method_7_code 1 = .ok (.ifCond .lt 24, 3) := by decide +kernel
theorem d_O_isDocument_4 : decode prog_9_method_7_code 4 = .ok (.iload_n 1, 1) := by decide +kernel
theorem d_O_isDocument_5 : decode prog_9_method_7_code 5 = .ok (.aload_n 0, 1) := by decide +kernel
theorem d_O_isDocument_6 : decode prog_9_method_7_code 6 = .ok (.getfield 76, 3) := by decide +kernel
theorem d_O_isDocument_9 : decode prog_9_method_7_code 9 = .ok (.if_icmp .ge 16, 3) := by decide +kernel
theorem d_O_isDocument_12 : decode prog_9_method_7_code 12 = .ok (.aload_n 0, 1) := by decide +kernel
theorem d_O_isDocument_13 : decode prog_9_method_7_code 13 = .ok (.getfield 17, 3) := by decide +kernel
theorem d_O_isDocument_16 : decode prog_9_method_7_code 16 = .ok (.iload_n 1, 1) := by decide +kernel
theorem d_O_isDocument_17 : decode prog_9_method_7_code 17 = .ok (.baload, 1) := by decide +kernel
theorem d_O_isDocument_18 : decode prog_9_method_7_code 18 = .ok (.ifCond .ne 7, 3) := by decide +kernel
theorem d_O_isDocument_21 : decode prog_9_method_7_code 21 = .ok (.iconst 1, 1) := by decide +kernel
theorem d_O_isDocument_22 : decode prog_9_method_7_code 22 = .ok (.goto 4, 3) := by decide +kernel
theorem d_O_isDocument_25 : decode prog_9_method_7_code 25 = .ok (.iconst 0, 1) := by decide +kernel
theorem d_O_isDocument_26 : decode prog_9_method_7_code 26 = .ok (.ireturn, 1) := by decide +kernel
theorem d_O_isDown_0 : decode prog_9_method_42_code 0 = .ok (.aload_n 0, 1) := by decide +kernel
theorem d_O_isDown_1 : decode prog_9_method_42_code 1 = .ok (.iconst 0, 1) := by decide +kernel
theorem d_O_isDown_2 : decode prog_9_method_42_code 2 = .ok (.putfield 62, 3) := by decide +kernel
theorem d_O_isDown_5 : decode prog_9_method_42_code 5 = .ok (.aload_n 0, 1) := by decide +kernel
theorem d_O_isDown_6 : decode prog_9_method_42_code 6 = .ok (.getfield 65, 3) := by decide +kernel
theorem d_O_isDown_9 : decode prog_9_method_42_code 9 = .ok (.ireturn, 1) := by decide +kernel
theorem d_O_isUnder_0 : decode prog_9_method_14_code 0 = .ok (.iload_n 1, 1) := by decide +kernel
theorem d_O_isUnder_1 : decode prog_9_method_14_code 1 = .ok (.istore_n 2, 1) := by decide +kernel
theorem d_O_isUnder_2 : decode prog_9_method_14_code 2 = .ok (.iload_n 2, 1) := by decide +kernel
theorem d_O_isUnder_3 : decode prog_9_method_14_code 3 = .ok (.iload_n 0, 1) := by decide +kernel
theorem d_O_isUnder_4 : decode prog_9_method_14_code 4 = .ok (.if_icmp .le 12, 3) := by decide +kernel
theorem d_O_isUnder_7 : decode prog_9_method_14_code 7 = .ok (.iload_n 2, 1) := by decide +kernel
theorem d_O_isUnder_8 : decode prog_9_method_14_code 8 = .ok (.iload_n 2, 1) := by decide +kernel
theorem d_O_isUnder_9 : decode prog_9_method_14_code 9 = .ok (.iconst 1, 1) := by decide +kernel
theorem d_O_isUnder_10 : decode prog_9_method_14_code 10 = .ok (.isub, 1) := by decide +kernel
theorem d_O_isUnder_11 : decode prog_9_method_14_code 11 = .ok (.iand, 1) := by decide +kernel
theorem d_O_isUnder_12 : decode prog_9_method_14_code 12 = .ok (.istore_n 2, 1) := by decide +kernel
theorem d_O_isUnder_13 : decode prog_9_method_14_code 13 = .ok (.goto (-11), 3) := by decide +kernel
theorem d_O_isUnder_16 : decode prog_9_method_14_code 16 = .ok (.iload_n 2, 1) := by decide +kernel
theorem d_O_isUnder_17 : decode prog_9_method_14_code 17 = .ok (.iload_n 0, 1) := by decide +kernel
theorem d_O_isUnder_18 : decode prog_9_method_14_code 18 = .ok (.if_icmp .ne 7, 3) := by decide +kernel
theorem d_O_isUnder_21 : decode prog_9_method_14_code 21 = .ok (.iconst 1, 1) := by decide +kernel
theorem d_O_isUnder_22 : decode prog_9_method_14_code 22 = .ok (.goto 4, 3) := by decide +kernel
theorem d_O_isUnder_25 : decode prog_9_method_14_code 25 = .ok (.iconst 0, 1) := by decide +kernel
theorem d_O_isUnder_26 : decode prog_9_method_14_code 26 = .ok (.ireturn, 1) := by decide +kernel
theorem d_O_kept_0 : decode prog_9_method_9_code 0 = .ok (.aload_n 0, 1) := by decide +kernel
theorem d_O_kept_1 : decode prog_9_method_9_code 1 = .ok (.iload_n 1, 1) := by decide +kernel
theorem d_O_kept_2 : decode prog_9_method_9_code 2 = .ok (.invokevirtual 79, 3) := by decide +kernel
theorem d_O_kept_5 : decode prog_9_method_9_code 5 = .ok (.ifCond .eq 37, 3) := by decide +kernel
theorem d_O_kept_8 : decode prog_9_method_9_code 8 = .ok (.iload_n 2, 1) := by decide +kernel
theorem d_O_kept_9 : decode prog_9_method_9_code 9 = .ok (.ifCond .lt 33, 3) := by decide +kernel
theorem d_O_kept_12 : decode prog_9_method_9_code 12 = .ok (.iload_n 2, 1) := by decide +kernel
theorem d_O_kept_13 : decode prog_9_method_9_code 13 = .ok (.bipush 64, 2) := by decide +kernel
theorem d_O_kept_15 : decode prog_9_method_9_code 15 = .ok (.if_icmp .ge 27, 3) := by decide +kernel
theorem d_O_kept_18 : decode prog_9_method_9_code 18 = .ok (.aload_n 0, 1) := by decide +kernel
theorem d_O_kept_19 : decode prog_9_method_9_code 19 = .ok (.getfield 28, 3) := by decide +kernel
theorem d_O_kept_22 : decode prog_9_method_9_code 22 = .ok (.bipush 64, 2) := by decide +kernel
theorem d_O_kept_24 : decode prog_9_method_9_code 24 = .ok (.iload_n 1, 1) := by decide +kernel
theorem d_O_kept_25 : decode prog_9_method_9_code 25 = .ok (.imul, 1) := by decide +kernel
theorem d_O_kept_26 : decode prog_9_method_9_code 26 = .ok (.iload_n 2, 1) := by decide +kernel
theorem d_O_kept_27 : decode prog_9_method_9_code 27 = .ok (.iadd, 1) := by decide +kernel
theorem d_O_kept_28 : decode prog_9_method_9_code 28 = .ok (.saload, 1) := by decide +kernel
theorem d_O_kept_29 : decode prog_9_method_9_code 29 = .ok (.iconst (-1), 1) := by decide +kernel
theorem d_O_kept_30 : decode prog_9_method_9_code 30 = .ok (.if_icmp .eq 12, 3) := by decide +kernel
theorem d_O_kept_33 : decode prog_9_method_9_code 33 = .ok (.bipush 64, 2) := by decide +kernel
theorem d_O_kept_35 : decode prog_9_method_9_code 35 = .ok (.iload_n 1, 1) := by decide +kernel
theorem d_O_kept_36 : decode prog_9_method_9_code 36 = .ok (.imul, 1) := by decide +kernel
theorem d_O_kept_37 : decode prog_9_method_9_code 37 = .ok (.iload_n 2, 1) := by decide +kernel
theorem d_O_kept_38 : decode prog_9_method_9_code 38 = .ok (.iadd, 1) := by decide +kernel
theorem d_O_kept_39 : decode prog_9_method_9_code 39 = .ok (.goto 4, 3) := by decide +kernel
theorem d_O_kept_42 : decode prog_9_method_9_code 42 = .ok (.iconst (-1), 1) := by decide +kernel
theorem d_O_kept_43 : decode prog_9_method_9_code 43 = .ok (.ireturn, 1) := by decide +kernel
theorem d_O_make_0 : decode prog_9_method_16_code 0 = .ok (.aload_n 0, 1) := by decide +kernel
theorem d_O_make_1 : decode prog_9_method_16_code 1 = .ok (.iconst 1, 1) := by decide +kernel
theorem d_O_make_2 : decode prog_9_method_16_code 2 = .ok (.invokevirtual 72, 3) := by decide +kernel
theorem d_O_make_5 : decode prog_9_method_16_code 5 = .ok (.ifCond .eq 12, 3) := by decide +kernel
theorem d_O_make_8 : decode prog_9_method_16_code 8 = .ok (.aload_n 0, 1) := by decide +kernel
theorem d_O_make_9 : decode prog_9_method_16_code 9 = .ok (.getfield 76, 3) := by decide +kernel
theorem d_O_make_12 : decode prog_9_method_16_code 12 = .ok (.bipush 8, 2) := by decide +kernel
theorem d_O_make_14 : decode prog_9_method_16_code 14 = .ok (.if_icmp .ne 16, 3) := by decide +kernel
theorem d_O_make_17 : decode prog_9_method_16_code 17 = .ok (.aload_n 0, 1) := by decide +kernel
theorem d_O_make_18 : decode prog_9_method_16_code 18 = .ok (.getfield 62, 3) := by decide +kernel
theorem d_O_make_21 : decode prog_9_method_16_code 21 = .ok (.ifCond .ne 7, 3) := by decide +kernel
theorem d_O_make_24 : decode prog_9_method_16_code 24 = .ok (.iconst (-1), 1) := by decide +kernel
theorem d_O_make_25 : decode prog_9_method_16_code 25 = .ok (.goto 4, 3) := by decide +kernel
theorem d_O_make_28 : decode prog_9_method_16_code 28 = .ok (.iconst 0, 1) := by decide +kernel
theorem d_O_make_29 : decode prog_9_method_16_code 29 = .ok (.ireturn, 1) := by decide +kernel
theorem d_O_make_30 : decode prog_9_method_16_code 30 = .ok (.aload_n 0, 1) := by decide +kernel
theorem d_O_make_31 : decode prog_9_method_16_code 31 = .ok (.iconst 1, 1) := by decide +kernel
theorem d_O_make_32 : decode prog_9_method_16_code 32 = .ok (.invokevirtual 97, 3) := by decide +kernel
theorem d_O_make_35 : decode prog_9_method_16_code 35 = .ok (.ifCond .ne 5, 3) := by decide +kernel
theorem d_O_make_38 : decode prog_9_method_16_code 38 = .ok (.iconst 0, 1) := by decide +kernel
theorem d_O_make_39 : decode prog_9_method_16_code 39 = .ok (.ireturn, 1) := by decide +kernel
theorem d_O_make_40 : decode prog_9_method_16_code 40 = .ok (.aload_n 0, 1) := by decide +kernel
theorem d_O_make_41 : decode prog_9_method_16_code 41 = .ok (.dup, 1) := by decide +kernel
theorem d_O_make_42 : decode prog_9_method_16_code 42 = .ok (.getfield 76, 3) := by decide +kernel
theorem d_O_make_45 : decode prog_9_method_16_code 45 = .ok (.iconst 1, 1) := by decide +kernel
theorem d_O_make_46 : decode prog_9_method_16_code 46 = .ok (.iadd, 1) := by decide +kernel
theorem d_O_make_47 : decode prog_9_method_16_code 47 = .ok (.putfield 76, 3) := by decide +kernel
theorem d_O_make_50 : decode prog_9_method_16_code 50 = .ok (.aload_n 0, 1) := by decide +kernel
theorem d_O_make_51 : decode prog_9_method_16_code 51 = .ok (.getfield 76, 3) := by decide +kernel
theorem d_O_make_54 : decode prog_9_method_16_code 54 = .ok (.iconst 1, 1) := by decide +kernel
theorem d_O_make_55 : decode prog_9_method_16_code 55 = .ok (.isub, 1) := by decide +kernel
theorem d_O_make_56 : decode prog_9_method_16_code 56 = .ok (.ireturn, 1) := by decide +kernel
theorem d_O_makes_0 : decode prog_9_method_19_code 0 = .ok (.aload_n 0, 1) := by decide +kernel
theorem d_O_makes_1 : decode prog_9_method_19_code 1 = .ok (.getfield 44, 3) := by decide +kernel
theorem d_O_makes_4 : decode prog_9_method_19_code 4 = .ok (.astore_n 2, 1) := by decide +kernel
theorem d_O_makes_5 : decode prog_9_method_19_code 5 = .ok (.aload_n 0, 1) := by decide +kernel
theorem d_O_makes_6 : decode prog_9_method_19_code 6 = .ok (.aload_n 0, 1) := by decide +kernel
theorem d_O_makes_7 : decode prog_9_method_19_code 7 = .ok (.getfield 41, 3) := by decide +kernel
theorem d_O_makes_10 : decode prog_9_method_19_code 10 = .ok (.putfield 44, 3) := by decide +kernel
theorem d_O_makes_13 : decode prog_9_method_19_code 13 = .ok (.aload_n 0, 1) := by decide +kernel
theorem d_O_makes_14 : decode prog_9_method_19_code 14 = .ok (.aload_n 0, 1) := by decide +kernel
theorem d_O_makes_15 : decode prog_9_method_19_code 15 = .ok (.getfield 113, 3) := by decide +kernel
theorem d_O_makes_18 : decode prog_9_method_19_code 18 = .ok (.putfield 116, 3) := by decide +kernel
theorem d_O_makes_21 : decode prog_9_method_19_code 21 = .ok (.aload_n 0, 1) := by decide +kernel
theorem d_O_makes_22 : decode prog_9_method_19_code 22 = .ok (.aload_n 2, 1) := by decide +kernel
theorem d_O_makes_23 : decode prog_9_method_19_code 23 = .ok (.putfield 41, 3) := by decide +kernel
theorem d_O_makes_26 : decode prog_9_method_19_code 26 = .ok (.aload_n 0, 1) := by decide +kernel
theorem d_O_makes_27 : decode prog_9_method_19_code 27 = .ok (.iconst 0, 1) := by decide +kernel
theorem d_O_makes_28 : decode prog_9_method_19_code 28 = .ok (.putfield 113, 3) := by decide +kernel
theorem d_O_makes_31 : decode prog_9_method_19_code 31 = .ok (.aload_n 0, 1) := by decide +kernel
theorem d_O_makes_32 : decode prog_9_method_19_code 32 = .ok (.getfield 28, 3) := by decide +kernel
theorem d_O_makes_35 : decode prog_9_method_19_code 35 = .ok (.iload_n 1, 1) := by decide +kernel
theorem d_O_makes_36 : decode prog_9_method_19_code 36 = .ok (.saload, 1) := by decide +kernel
theorem d_O_makes_37 : decode prog_9_method_19_code 37 = .ok (.iconst (-1), 1) := by decide +kernel
theorem d_O_makes_38 : decode prog_9_method_19_code 38 = .ok (.if_icmp .ne 5, 3) := by decide +kernel
theorem d_O_makes_41 : decode prog_9_method_19_code 41 = .ok (.iconst 0, 1) := by decide +kernel
theorem d_O_makes_42 : decode prog_9_method_19_code 42 = .ok (.ireturn, 1) := by decide +kernel
theorem d_O_makes_43 : decode prog_9_method_19_code 43 = .ok (.aload_n 0, 1) := by decide +kernel
theorem d_O_makes_44 : decode prog_9_method_19_code 44 = .ok (.aload_n 0, 1) := by decide +kernel
theorem d_O_makes_45 : decode prog_9_method_19_code 45 = .ok (.iload_n 1, 1) := by decide +kernel
theorem d_O_makes_46 : decode prog_9_method_19_code 46 = .ok (.invokevirtual 86, 3) := by decide +kernel
theorem d_O_makes_49 : decode prog_9_method_19_code 49 = .ok (.putfield 103, 3) := by decide +kernel
theorem d_O_makes_52 : decode prog_9_method_19_code 52 = .ok (.aload_n 0, 1) := by decide +kernel
theorem d_O_makes_53 : decode prog_9_method_19_code 53 = .ok (.aload_n 0, 1) := by decide +kernel
theorem d_O_makes_54 : decode prog_9_method_19_code 54 = .ok (.getfield 103, 3) := by decide +kernel
theorem d_O_makes_57 : decode prog_9_method_19_code 57 = .ok (.aload_n 0, 1) := by decide +kernel
theorem d_O_makes_58 : decode prog_9_method_19_code 58 = .ok (.getfield 28, 3) := by decide +kernel
theorem d_O_makes_61 : decode prog_9_method_19_code 61 = .ok (.iload_n 1, 1) := by decide +kernel
theorem d_O_makes_62 : decode prog_9_method_19_code 62 = .ok (.saload, 1) := by decide +kernel
theorem d_O_makes_63 : decode prog_9_method_19_code 63 = .ok (.iadd, 1) := by decide +kernel
theorem d_O_makes_64 : decode prog_9_method_19_code 64 = .ok (.putfield 106, 3) := by decide +kernel
theorem d_O_makes_67 : decode prog_9_method_19_code 67 = .ok (.aload_n 0, 1) := by decide +kernel
theorem d_O_makes_68 : decode prog_9_method_19_code 68 = .ok (.getfield 103, 3) := by decide +kernel
theorem d_O_makes_71 : decode prog_9_method_19_code 71 = .ok (.aload_n 0, 1) := by decide +kernel
theorem d_O_makes_72 : decode prog_9_method_19_code 72 = .ok (.getfield 106, 3) := by decide +kernel
theorem d_O_makes_75 : decode prog_9_method_19_code 75 = .ok (.if_icmp .ge 12, 3) := by decide +kernel
theorem d_O_makes_78 : decode prog_9_method_19_code 78 = .ok (.aload_n 0, 1) := by decide +kernel
theorem d_O_makes_79 : decode prog_9_method_19_code 79 = .ok (.invokevirtual 119, 3) := by decide +kernel
theorem d_O_makes_82 : decode prog_9_method_19_code 82 = .ok (.ifCond .ne (-15), 3) := by decide +kernel
theorem d_O_makes_85 : decode prog_9_method_19_code 85 = .ok (.iconst 0, 1) := by decide +kernel
theorem d_O_makes_86 : decode prog_9_method_19_code 86 = .ok (.ireturn, 1) := by decide +kernel
theorem d_O_makes_87 : decode prog_9_method_19_code 87 = .ok (.iconst 1, 1) := by decide +kernel
theorem d_O_makes_88 : decode prog_9_method_19_code 88 = .ok (.ireturn, 1) := by decide +kernel
theorem d_O_number_0 : decode prog_9_method_17_code 0 = .ok (.aload_n 0, 1) := by decide +kernel
theorem d_O_number_1 : decode prog_9_method_17_code 1 = .ok (.iconst 0, 1) := by decide +kernel
theorem d_O_number_2 : decode prog_9_method_17_code 2 = .ok (.putfield 100, 3) := by decide +kernel
theorem d_O_number_5 : decode prog_9_method_17_code 5 = .ok (.iconst 0, 1) := by decide +kernel
theorem d_O_number_6 : decode prog_9_method_17_code 6 = .ok (.istore_n 1, 1) := by decide +kernel
theorem d_O_number_7 : decode prog_9_method_17_code 7 = .ok (.iload_n 1, 1) := by decide +kernel
theorem d_O_number_8 : decode prog_9_method_17_code 8 = .ok (.iconst 3, 1) := by decide +kernel
theorem d_O_number_9 : decode prog_9_method_17_code 9 = .ok (.if_icmp .ge 73, 3) := by decide +kernel
theorem d_O_number_12 : decode prog_9_method_17_code 12 = .ok (.aload_n 0, 1) := by decide +kernel
theorem d_O_number_13 : decode prog_9_method_17_code 13 = .ok (.getfield 103, 3) := by decide +kernel
theorem d_O_number_16 : decode prog_9_method_17_code 16 = .ok (.aload_n 0, 1) := by decide +kernel
theorem d_O_number_17 : decode prog_9_method_17_code 17 = .ok (.getfield 106, 3) := by decide +kernel
theorem d_O_number_20 : decode prog_9_method_17_code 20 = .ok (.if_icmp .ne 5, 3) := by decide +kernel
theorem d_O_number_23 : decode prog_9_method_17_code 23 = .ok (.iconst 0, 1) := by decide +kernel
theorem d_O_number_24 : decode prog_9_method_17_code 24 = .ok (.ireturn, 1) := by decide +kernel
theorem d_O_number_25 : decode prog_9_method_17_code 25 = .ok (.aload_n 0, 1) := by decide +kernel
theorem d_O_number_26 : decode prog_9_method_17_code 26 = .ok (.getfield 38, 3) := by decide +kernel
theorem d_O_number_29 : decode prog_9_method_17_code 29 = .ok (.aload_n 0, 1) := by decide +kernel
theorem d_O_number_30 : decode prog_9_method_17_code 30 = .ok (.getfield 103, 3) := by decide +kernel
theorem d_O_number_33 : decode prog_9_method_17_code 33 = .ok (.baload, 1) := by decide +kernel
theorem d_O_number_34 : decode prog_9_method_17_code 34 = .ok (.sipush 255, 3) := by decide +kernel
theorem d_O_number_37 : decode prog_9_method_17_code 37 = .ok (.iand, 1) := by decide +kernel
theorem d_O_number_38 : decode prog_9_method_17_code 38 = .ok (.istore_n 2, 1) := by decide +kernel
theorem d_O_number_39 : decode prog_9_method_17_code 39 = .ok (.aload_n 0, 1) := by decide +kernel
theorem d_O_number_40 : decode prog_9_method_17_code 40 = .ok (.dup, 1) := by decide +kernel
theorem d_O_number_41 : decode prog_9_method_17_code 41 = .ok (.getfield 103, 3) := by decide +kernel
theorem d_O_number_44 : decode prog_9_method_17_code 44 = .ok (.iconst 1, 1) := by decide +kernel
theorem d_O_number_45 : decode prog_9_method_17_code 45 = .ok (.iadd, 1) := by decide +kernel
theorem d_O_number_46 : decode prog_9_method_17_code 46 = .ok (.putfield 103, 3) := by decide +kernel
theorem d_O_number_49 : decode prog_9_method_17_code 49 = .ok (.aload_n 0, 1) := by decide +kernel
theorem d_O_number_50 : decode prog_9_method_17_code 50 = .ok (.dup, 1) := by decide +kernel
theorem d_O_number_51 : decode prog_9_method_17_code 51 = .ok (.getfield 100, 3) := by decide +kernel
theorem d_O_number_54 : decode prog_9_method_17_code 54 = .ok (.iload_n 2, 1) := by decide +kernel
theorem d_O_number_55 : decode prog_9_method_17_code 55 = .ok (.bipush 127, 2) := by decide +kernel
theorem d_O_number_57 : decode prog_9_method_17_code 57 = .ok (.iand, 1) := by decide +kernel
theorem d_O_number_58 : decode prog_9_method_17_code 58 = .ok (.bipush 7, 2) := by decide +kernel
theorem d_O_number_60 : decode prog_9_method_17_code 60 = .ok (.iload_n 1, 1) := by decide +kernel
theorem d_O_number_61 : decode prog_9_method_17_code 61 = .ok (.imul, 1) := by decide +kernel
theorem d_O_number_62 : decode prog_9_method_17_code 62 = .ok (.ishl, 1) := by decide +kernel
theorem d_O_number_63 : decode prog_9_method_17_code 63 = .ok (.iadd, 1) := by decide +kernel
theorem d_O_number_64 : decode prog_9_method_17_code 64 = .ok (.putfield 100, 3) := by decide +kernel
theorem d_O_number_67 : decode prog_9_method_17_code 67 = .ok (.iload_n 2, 1) := by decide +kernel
theorem d_O_number_68 : decode prog_9_method_17_code 68 = .ok (.sipush 128, 3) := by decide +kernel
theorem d_O_number_71 : decode prog_9_method_17_code 71 = .ok (.if_icmp .ge 5, 3) := by decide +kernel
theorem d_O_number_74 : decode prog_9_method_17_code 74 = .ok (.iconst 1, 1) := by decide +kernel
theorem d_O_number_75 : decode prog_9_method_17_code 75 = .ok (.ireturn, 1) := by decide +kernel
theorem d_O_number_76 : decode prog_9_method_17_code 76 = .ok (.iinc 1 1, 3) := by decide +kernel
theorem d_O_number_79 : decode prog_9_method_17_code 79 = .ok (.goto (-72), 3) := by decide +kernel
theorem d_O_number_82 : decode prog_9_method_17_code 82 = .ok (.iconst 0, 1) := by decide +kernel
theorem d_O_number_83 : decode prog_9_method_17_code 83 = .ok (.ireturn, 1) := by decide +kernel
theorem d_O_out_0 : decode prog_9_method_29_code 0 = .ok (.aload_n 0, 1) := by decide +kernel
theorem d_O_out_1 : decode prog_9_method_29_code 1 = .ok (.iconst 1, 1) := by decide +kernel
theorem d_O_out_2 : decode prog_9_method_29_code 2 = .ok (.invokevirtual 72, 3) := by decide +kernel
theorem d_O_out_5 : decode prog_9_method_29_code 5 = .ok (.ifCond .ne 5, 3) := by decide +kernel
theorem d_O_out_8 : decode prog_9_method_29_code 8 = .ok (.iconst 0, 1) := by decide +kernel
theorem d_O_out_9 : decode prog_9_method_29_code 9 = .ok (.ireturn, 1) := by decide +kernel
theorem d_O_out_10 : decode prog_9_method_29_code 10 = .ok (.iload_n 1, 1) := by decide +kernel
theorem d_O_out_11 : decode prog_9_method_29_code 11 = .ok (.ifCond .lt 24, 3) := by decide +kernel
theorem d_O_out_14 : decode prog_9_method_29_code 14 = .ok (.iload_n 1, 1) := by decide +kernel
theorem d_O_out_15 : decode prog_9_method_29_code 15 = .ok (.aload_n 0, 1) := by decide +kernel
theorem d_O_out_16 : decode prog_9_method_29_code 16 = .ok (.getfield 50, 3) := by decide +kernel
theorem d_O_out_19 : decode prog_9_method_29_code 19 = .ok (.if_icmp .ge 16, 3) := by decide +kernel
theorem d_O_out_22 : decode prog_9_method_29_code 22 = .ok (.aload_n 0, 1) := by decide +kernel
theorem d_O_out_23 : decode prog_9_method_29_code 23 = .ok (.getfield 47, 3) := by decide +kernel
theorem d_O_out_26 : decode prog_9_method_29_code 26 = .ok (.iload_n 1, 1) := by decide +kernel
theorem d_O_out_27 : decode prog_9_method_29_code 27 = .ok (.baload, 1) := by decide +kernel
theorem d_O_out_28 : decode prog_9_method_29_code 28 = .ok (.sipush 255, 3) := by decide +kernel
theorem d_O_out_31 : decode prog_9_method_29_code 31 = .ok (.iand, 1) := by decide +kernel
theorem d_O_out_32 : decode prog_9_method_29_code 32 = .ok (.goto 4, 3) := by decide +kernel
theorem d_O_out_35 : decode prog_9_method_29_code 35 = .ok (.iconst (-1), 1) := by decide +kernel
theorem d_O_out_36 : decode prog_9_method_29_code 36 = .ok (.ireturn, 1) := by decide +kernel
theorem d_O_pieceByte_0 : decode prog_9_method_35_code 0 = .ok (.aload_n 0, 1) := by decide +kernel
theorem d_O_pieceByte_1 : decode prog_9_method_35_code 1 = .ok (.iconst 1, 1) := by decide +kernel
theorem d_O_pieceByte_2 : decode prog_9_method_35_code 2 = .ok (.invokevirtual 72, 3) := by decide +kernel
theorem d_O_pieceByte_5 : decode prog_9_method_35_code 5 = .ok (.ifCond .ne 5, 3) := by decide +kernel
theorem d_O_pieceByte_8 : decode prog_9_method_35_code 8 = .ok (.iconst 0, 1) := by decide +kernel
theorem d_O_pieceByte_9 : decode prog_9_method_35_code 9 = .ok (.ireturn, 1) := by decide +kernel
theorem d_O_pieceByte_10 : decode prog_9_method_35_code 10 = .ok (.aload_n 0, 1) := by decide +kernel
theorem d_O_pieceByte_11 : decode prog_9_method_35_code 11 = .ok (.iload_n 1, 1) := by decide +kernel
theorem d_O_pieceByte_12 : decode prog_9_method_35_code 12 = .ok (.iload_n 2, 1) := by decide +kernel
theorem d_O_pieceByte_13 : decode prog_9_method_35_code 13 = .ok (.invokevirtual 162, 3) := by decide +kernel
theorem d_O_pieceByte_16 : decode prog_9_method_35_code 16 = .ok (.istore 4, 2) := by decide +kernel
theorem d_O_pieceByte_18 : decode prog_9_method_35_code 18 = .ok (.iload 4, 2) := by decide +kernel
theorem d_O_pieceByte_20 : decode prog_9_method_35_code 20 = .ok (.iconst (-1), 1) := by decide +kernel
theorem d_O_pieceByte_21 : decode prog_9_method_35_code 21 = .ok (.if_icmp .eq 38, 3) := by decide +kernel
theorem d_O_pieceByte_24 : decode prog_9_method_35_code 24 = .ok (.iload_n 3, 1) := by decide +kernel
theorem d_O_pieceByte_25 : decode prog_9_method_35_code 25 = .ok (.ifCond .lt 34, 3) := by decide +kernel
theorem d_O_pieceByte_28 : decode prog_9_method_35_code 28 = .ok (.iload_n 3, 1) := by decide +kernel
theorem d_O_pieceByte_29 : decode prog_9_method_35_code 29 = .ok (.aload_n 0, 1) := by decide +kernel
theorem d_O_pieceByte_30 : decode prog_9_method_35_code 30 = .ok (.getfield 28, 3) := by decide +kernel
theorem d_O_pieceByte_33 : decode prog_9_method_35_code 33 = .ok (.iload 4, 2) := by decide +kernel
theorem d_O_pieceByte_35 : decode prog_9_method_35_code 35 = .ok (.saload, 1) := by decide +kernel
theorem d_O_pieceByte_36 : decode prog_9_method_35_code 36 = .ok (.if_icmp .ge 23, 3) := by decide +kernel
theorem d_O_pieceByte_39 : decode prog_9_method_35_code 39 = .ok (.aload_n 0, 1) := by decide +kernel
theorem d_O_pieceByte_40 : decode prog_9_method_35_code 40 = .ok (.getfield 38, 3) := by decide +kernel
theorem d_O_pieceByte_43 : decode prog_9_method_35_code 43 = .ok (.aload_n 0, 1) := by decide +kernel
theorem d_O_pieceByte_44 : decode prog_9_method_35_code 44 = .ok (.iload 4, 2) := by decide +kernel
theorem d_O_pieceByte_46 : decode prog_9_method_35_code 46 = .ok (.invokevirtual 86, 3) := by decide +kernel
theorem d_O_pieceByte_49 : decode prog_9_method_35_code 49 = .ok (.iload_n 3, 1) := by decide +kernel
theorem d_O_pieceByte_50 : decode prog_9_method_35_code 50 = .ok (.iadd, 1) := by decide +kernel
theorem d_O_pieceByte_51 : decode prog_9_method_35_code 51 = .ok (.baload, 1) := by decide +kernel
theorem d_O_pieceByte_52 : decode prog_9_method_35_code 52 = .ok (.sipush 255, 3) := by decide +kernel
theorem d_O_pieceByte_55 : decode prog_9_method_35_code 55 = .ok (.iand, 1) := by decide +kernel
theorem d_O_pieceByte_56 : decode prog_9_method_35_code 56 = .ok (.goto 4, 3) := by decide +kernel
theorem d_O_pieceByte_59 : decode prog_9_method_35_code 59 = .ok (.iconst (-1), 1) := by decide +kernel
theorem d_O_pieceByte_60 : decode prog_9_method_35_code 60 = .ok (.ireturn, 1) := by decide +kernel
theorem d_O_pieces_0 : decode prog_9_method_25_code 0 = .ok (.aload_n 0, 1) := by decide +kernel
theorem d_O_pieces_1 : decode prog_9_method_25_code 1 = .ok (.iconst 0, 1) := by decide +kernel
theorem d_O_pieces_2 : decode prog_9_method_25_code 2 = .ok (.putfield 125, 3) := by decide +kernel
theorem d_O_pieces_5 : decode prog_9_method_25_code 5 = .ok (.iconst 0, 1) := by decide +kernel
theorem d_O_pieces_6 : decode prog_9_method_25_code 6 = .ok (.istore_n 1, 1) := by decide +kernel
theorem d_O_pieces_7 : decode prog_9_method_25_code 7 = .ok (.iconst 0, 1) := by decide +kernel
theorem d_O_pieces_8 : decode prog_9_method_25_code 8 = .ok (.istore_n 2, 1) := by decide +kernel
theorem d_O_pieces_9 : decode prog_9_method_25_code 9 = .ok (.iload_n 2, 1) := by decide +kernel
theorem d_O_pieces_10 : decode prog_9_method_25_code 10 = .ok (.aload_n 0, 1) := by decide +kernel
theorem d_O_pieces_11 : decode prog_9_method_25_code 11 = .ok (.getfield 69, 3) := by decide +kernel
theorem d_O_pieces_14 : decode prog_9_method_25_code 14 = .ok (.if_icmp .ge 104, 3) := by decide +kernel
theorem d_O_pieces_17 : decode prog_9_method_25_code 17 = .ok (.iconst 0, 1) := by decide +kernel
theorem d_O_pieces_18 : decode prog_9_method_25_code 18 = .ok (.istore_n 3, 1) := by decide +kernel
theorem d_O_pieces_19 : decode prog_9_method_25_code 19 = .ok (.iconst 0, 1) := by decide +kernel
theorem d_O_pieces_20 : decode prog_9_method_25_code 20 = .ok (.istore 4, 2) := by decide +kernel
theorem d_O_pieces_22 : decode prog_9_method_25_code 22 = .ok (.iconst 0, 1) := by decide +kernel
theorem d_O_pieces_23 : decode prog_9_method_25_code 23 = .ok (.istore 5, 2) := by decide +kernel
theorem d_O_pieces_25 : decode prog_9_method_25_code 25 = .ok (.iload 5, 2) := by decide +kernel
theorem d_O_pieces_27 : decode prog_9_method_25_code 27 = .ok (.aload_n 0, 1) := by decide +kernel
theorem d_O_pieces_28 : decode prog_9_method_25_code 28 = .ok (.getfield 113, 3) := by decide +kernel
theorem d_O_pieces_31 : decode prog_9_method_25_code 31 = .ok (.if_icmp .ge 46, 3) := by decide +kernel
theorem d_O_pieces_34 : decode prog_9_method_25_code 34 = .ok (.aload_n 0, 1) := by decide +kernel
theorem d_O_pieces_35 : decode prog_9_method_25_code 35 = .ok (.iload_n 2, 1) := by decide +kernel
theorem d_O_pieces_36 : decode prog_9_method_25_code 36 = .ok (.iload 5, 2) := by decide +kernel
theorem d_O_pieces_38 : decode prog_9_method_25_code 38 = .ok (.invokevirtual 134, 3) := by decide +kernel
theorem d_O_pieces_41 : decode prog_9_method_25_code 41 = .ok (.istore 6, 2) := by decide +kernel
theorem d_O_pieces_43 : decode prog_9_method_25_code 43 = .ok (.iload 6, 2) := by decide +kernel
theorem d_O_pieces_45 : decode prog_9_method_25_code 45 = .ok (.iload_n 3, 1) := by decide +kernel
theorem d_O_pieces_46 : decode prog_9_method_25_code 46 = .ok (.if_icmp .le 8, 3) := by decide +kernel
theorem d_O_pieces_49 : decode prog_9_method_25_code 49 = .ok (.iload 5, 2) := by decide +kernel
theorem d_O_pieces_51 : decode prog_9_method_25_code 51 = .ok (.goto 5, 3) := by decide +kernel
theorem d_O_pieces_54 : decode prog_9_method_25_code 54 = .ok (.iload 4, 2) := by decide +kernel
theorem d_O_pieces_56 : decode prog_9_method_25_code 56 = .ok (.istore 4, 2) := by decide +kernel
theorem d_O_pieces_58 : decode prog_9_method_25_code 58 = .ok (.iload 6, 2) := by decide +kernel
theorem d_O_pieces_60 : decode prog_9_method_25_code 60 = .ok (.iload_n 3, 1) := by decide +kernel
theorem d_O_pieces_61 : decode prog_9_method_25_code 61 = .ok (.if_icmp .le 8, 3) := by decide +kernel
theorem d_O_pieces_64 : decode prog_9_method_25_code 64 = .ok (.iload 6, 2) := by decide +kernel
theorem d_O_pieces_66 : decode prog_9_method_25_code 66 = .ok (.goto 4, 3) := by decide +kernel
theorem d_O_pieces_69 : decode prog_9_method_25_code 69 = .ok (.iload_n 3, 1) := by decide +kernel
theorem d_O_pieces_70 : decode prog_9_method_25_code 70 = .ok (.istore_n 3, 1) := by decide +kernel
theorem d_O_pieces_71 : decode prog_9_method_25_code 71 = .ok (.iinc 5 1, 3) := by decide +kernel
theorem d_O_pieces_74 : decode prog_9_method_25_code 74 = .ok (.goto (-49), 3) := by decide +kernel
theorem d_O_pieces_77 : decode prog_9_method_25_code 77 = .ok (.iload_n 3, 1) := by decide +kernel
theorem d_O_pieces_78 : decode prog_9_method_25_code 78 = .ok (.iconst 3, 1) := by decide +kernel
theorem d_O_pieces_79 : decode prog_9_method_25_code 79 = .ok (.if_icmp .le 33, 3) := by decide +kernel
theorem d_O_pieces_82 : decode prog_9_method_25_code 82 = .ok (.aload_n 0, 1) := by decide +kernel
theorem d_O_pieces_83 : decode prog_9_method_25_code 83 = .ok (.iload_n 1, 1) := by decide +kernel
theorem d_O_pieces_84 : decode prog_9_method_25_code 84 = .ok (.iload_n 2, 1) := by decide +kernel
theorem d_O_pieces_85 : decode prog_9_method_25_code 85 = .ok (.invokevirtual 138, 3) := by decide +kernel
theorem d_O_pieces_88 : decode prog_9_method_25_code 88 = .ok (.aload_n 0, 1) := by decide +kernel
theorem d_O_pieces_89 : decode prog_9_method_25_code 89 = .ok (.iconst 2, 1) := by decide +kernel
theorem d_O_pieces_90 : decode prog_9_method_25_code 90 = .ok (.iload_n 3, 1) := by decide +kernel
theorem d_O_pieces_91 : decode prog_9_method_25_code 91 = .ok (.imul, 1) := by decide +kernel
theorem d_O_pieces_92 : decode prog_9_method_25_code 92 = .ok (.iconst 1, 1) := by decide +kernel
theorem d_O_pieces_93 : decode prog_9_method_25_code 93 = .ok (.iadd, 1) := by decide +kernel
theorem d_O_pieces_94 : decode prog_9_method_25_code 94 = .ok (.invokevirtual 131, 3) := by decide +kernel
theorem d_O_pieces_97 : decode prog_9_method_25_code 97 = .ok (.aload_n 0, 1) := by decide +kernel
theorem d_O_pieces_98 : decode prog_9_method_25_code 98 = .ok (.iload 4, 2) := by decide +kernel
theorem d_O_pieces_100 : decode prog_9_method_25_code 100 = .ok (.invokevirtual 131, 3) := by decide +kernel
theorem d_O_pieces_103 : decode prog_9_method_25_code 103 = .ok (.iload_n 2, 1) := by decide +kernel
theorem d_O_pieces_104 : decode prog_9_method_25_code 104 = .ok (.iload_n 3, 1) := by decide +kernel
theorem d_O_pieces_105 : decode prog_9_method_25_code 105 = .ok (.iadd, 1) := by decide +kernel
theorem d_O_pieces_106 : decode prog_9_method_25_code 106 = .ok (.istore_n 2, 1) := by decide +kernel
theorem d_O_pieces_107 : decode prog_9_method_25_code 107 = .ok (.iload_n 2, 1) := by decide +kernel
theorem d_O_pieces_108 : decode prog_9_method_25_code 108 = .ok (.istore_n 1, 1) := by decide +kernel
theorem d_O_pieces_109 : decode prog_9_method_25_code 109 = .ok (.goto 6, 3) := by decide +kernel
theorem d_O_pieces_112 : decode prog_9_method_25_code 112 = .ok (.iinc 2 1, 3) := by decide +kernel
theorem d_O_pieces_115 : decode prog_9_method_25_code 115 = .ok (.goto (-106), 3) := by decide +kernel
theorem d_O_pieces_118 : decode prog_9_method_25_code 118 = .ok (.aload_n 0, 1) := by decide +kernel
theorem d_O_pieces_119 : decode prog_9_method_25_code 119 = .ok (.iload_n 1, 1) := by decide +kernel
theorem d_O_pieces_120 : decode prog_9_method_25_code 120 = .ok (.aload_n 0, 1) := by decide +kernel
theorem d_O_pieces_121 : decode prog_9_method_25_code 121 = .ok (.getfield 69, 3) := by decide +kernel
theorem d_O_pieces_124 : decode prog_9_method_25_code 124 = .ok (.invokevirtual 138, 3) := by decide +kernel
theorem d_O_pieces_127 : decode prog_9_method_25_code 127 = .ok (.aload_n 0, 1) := by decide +kernel
theorem d_O_pieces_128 : decode prog_9_method_25_code 128 = .ok (.getfield 69, 3) := by decide +kernel
theorem d_O_pieces_131 : decode prog_9_method_25_code 131 = .ok (.ifCond .ne 7, 3) := by decide +kernel
theorem d_O_pieces_134 : decode prog_9_method_25_code 134 = .ok (.iconst 0, 1) := by decide +kernel
theorem d_O_pieces_135 : decode prog_9_method_25_code 135 = .ok (.goto 22, 3) := by decide +kernel
theorem d_O_pieces_138 : decode prog_9_method_25_code 138 = .ok (.aload_n 0, 1) := by decide +kernel
theorem d_O_pieces_139 : decode prog_9_method_25_code 139 = .ok (.getfield 69, 3) := by decide +kernel
theorem d_O_pieces_142 : decode prog_9_method_25_code 142 = .ok (.aload_n 0, 1) := by decide +kernel
theorem d_O_pieces_143 : decode prog_9_method_25_code 143 = .ok (.getfield 69, 3) := by decide +kernel
theorem d_O_pieces_146 : decode prog_9_method_25_code 146 = .ok (.bipush 64, 2) := by decide +kernel
theorem d_O_pieces_148 : decode prog_9_method_25_code 148 = .ok (.if_icmp .ge 7, 3) := by decide +kernel
theorem d_O_pieces_151 : decode prog_9_method_25_code 151 = .ok (.iconst 1, 1) := by decide +kernel
theorem d_O_pieces_152 : decode prog_9_method_25_code 152 = .ok (.goto 4, 3) := by decide +kernel
theorem d_O_pieces_155 : decode prog_9_method_25_code 155 = .ok (.iconst 2, 1) := by decide +kernel
theorem d_O_pieces_156 : decode prog_9_method_25_code 156 = .ok (.iadd, 1) := by decide +kernel
theorem d_O_pieces_157 : decode prog_9_method_25_code 157 = .ok (.istore_n 3, 1) := by decide +kernel
theorem d_O_pieces_158 : decode prog_9_method_25_code 158 = .ok (.aload_n 0, 1) := by decide +kernel
theorem d_O_pieces_159 : decode prog_9_method_25_code 159 = .ok (.getfield 125, 3) := by decide +kernel
theorem d_O_pieces_162 : decode prog_9_method_25_code 162 = .ok (.iload_n 3, 1) := by decide +kernel
theorem d_O_pieces_163 : decode prog_9_method_25_code 163 = .ok (.if_icmp .le 17, 3) := by decide +kernel
theorem d_O_pieces_166 : decode prog_9_method_25_code 166 = .ok (.aload_n 0, 1) := by decide +kernel
theorem d_O_pieces_167 : decode prog_9_method_25_code 167 = .ok (.iconst 0, 1) := by decide +kernel
theorem d_O_pieces_168 : decode prog_9_method_25_code 168 = .ok (.putfield 125, 3) := by decide +kernel
theorem d_O_pieces_171 : decode prog_9_method_25_code 171 = .ok (.aload_n 0, 1) := by decide +kernel
theorem d_O_pieces_172 : decode prog_9_method_25_code 172 = .ok (.iconst 0, 1) := by decide +kernel
theorem d_O_pieces_173 : decode prog_9_method_25_code 173 = .ok (.aload_n 0, 1) := by decide +kernel
theorem d_O_pieces_174 : decode prog_9_method_25_code 174 = .ok (.getfield 69, 3) := by decide +kernel
theorem d_O_pieces_177 : decode prog_9_method_25_code 177 = .ok (.invokevirtual 138, 3) := by decide +kernel
theorem d_O_pieces_180 : decode prog_9_method_25_code 180 = .ok (.return_, 1) := by decide +kernel
theorem d_O_put_0 : decode prog_9_method_21_code 0 = .ok (.aload_n 0, 1) := by decide +kernel
theorem d_O_put_1 : decode prog_9_method_21_code 1 = .ok (.getfield 59, 3) := by decide +kernel
theorem d_O_put_4 : decode prog_9_method_21_code 4 = .ok (.aload_n 0, 1) := by decide +kernel
theorem d_O_put_5 : decode prog_9_method_21_code 5 = .ok (.getfield 125, 3) := by decide +kernel
theorem d_O_put_8 : decode prog_9_method_21_code 8 = .ok (.iload_n 1, 1) := by decide +kernel
theorem d_O_put_9 : decode prog_9_method_21_code 9 = .ok (.i2b, 1) := by decide +kernel
theorem d_O_put_10 : decode prog_9_method_21_code 10 = .ok (.bastore, 1) := by decide +kernel
theorem d_O_put_11 : decode prog_9_method_21_code 11 = .ok (.aload_n 0, 1) := by decide +kernel
theorem d_O_put_12 : decode prog_9_method_21_code 12 = .ok (.dup, 1) := by decide +kernel
theorem d_O_put_13 : decode prog_9_method_21_code 13 = .ok (.getfield 125, 3) := by decide +kernel
theorem d_O_put_16 : decode prog_9_method_21_code 16 = .ok (.iconst 1, 1) := by decide +kernel
theorem d_O_put_17 : decode prog_9_method_21_code 17 = .ok (.iadd, 1) := by decide +kernel
theorem d_O_put_18 : decode prog_9_method_21_code 18 = .ok (.putfield 125, 3) := by decide +kernel
theorem d_O_put_21 : decode prog_9_method_21_code 21 = .ok (.return_, 1) := by decide +kernel
theorem d_O_putNumber_0 : decode prog_9_method_22_code 0 = .ok (.iload_n 1, 1) := by decide +kernel
theorem d_O_putNumber_1 : decode prog_9_method_22_code 1 = .ok (.istore_n 2, 1) := by decide +kernel
theorem d_O_putNumber_2 : decode prog_9_method_22_code 2 = .ok (.iload_n 2, 1) := by decide +kernel
theorem d_O_putNumber_3 : decode prog_9_method_22_code 3 = .ok (.bipush 127, 2) := by decide +kernel
theorem d_O_putNumber_5 : decode prog_9_method_22_code 5 = .ok (.if_icmp .le 25, 3) := by decide +kernel
theorem d_O_putNumber_8 : decode prog_9_method_22_code 8 = .ok (.aload_n 0, 1) := by decide +kernel
theorem d_O_putNumber_9 : decode prog_9_method_22_code 9 = .ok (.iload_n 2, 1) := by decide +kernel
theorem d_O_putNumber_10 : decode prog_9_method_22_code 10 = .ok (.sipush 128, 3) := by decide +kernel
theorem d_O_putNumber_13 : decode prog_9_method_22_code 13 = .ok (.irem, 1) := by decide +kernel
theorem d_O_putNumber_14 : decode prog_9_method_22_code 14 = .ok (.sipush 128, 3) := by decide +kernel
theorem d_O_putNumber_17 : decode prog_9_method_22_code 17 = .ok (.iadd, 1) := by decide +kernel
theorem d_O_putNumber_18 : decode prog_9_method_22_code 18 = .ok (.invokevirtual 128, 3) := by decide +kernel
theorem d_O_putNumber_21 : decode prog_9_method_22_code 21 = .ok (.iload_n 2, 1) := by decide +kernel
theorem d_O_putNumber_22 : decode prog_9_method_22_code 22 = .ok (.sipush 128, 3) := by decide +kernel
theorem d_O_putNumber_25 : decode prog_9_method_22_code 25 = .ok (.idiv, 1) := by decide +kernel
theorem d_O_putNumber_26 : decode prog_9_method_22_code 26 = .ok (.istore_n 2, 1) := by decide +kernel
theorem d_O_putNumber_27 : decode prog_9_method_22_code 27 = .ok (.goto (-25), 3) := by decide +kernel
theorem d_O_putNumber_30 : decode prog_9_method_22_code 30 = .ok (.aload_n 0, 1) := by decide +kernel
theorem d_O_putNumber_31 : decode prog_9_method_22_code 31 = .ok (.iload_n 2, 1) := by decide +kernel
theorem d_O_putNumber_32 : decode prog_9_method_22_code 32 = .ok (.invokevirtual 128, 3) := by decide +kernel
theorem d_O_putNumber_35 : decode prog_9_method_22_code 35 = .ok (.return_, 1) := by decide +kernel
theorem d_O_revision_0 : decode prog_9_method_34_code 0 = .ok (.aload_n 0, 1) := by decide +kernel
theorem d_O_revision_1 : decode prog_9_method_34_code 1 = .ok (.iconst 3, 1) := by decide +kernel
theorem d_O_revision_2 : decode prog_9_method_34_code 2 = .ok (.invokevirtual 72, 3) := by decide +kernel
theorem d_O_revision_5 : decode prog_9_method_34_code 5 = .ok (.ifCond .ne 5, 3) := by decide +kernel
theorem d_O_revision_8 : decode prog_9_method_34_code 8 = .ok (.iconst 0, 1) := by decide +kernel
theorem d_O_revision_9 : decode prog_9_method_34_code 9 = .ok (.ireturn, 1) := by decide +kernel
theorem d_O_revision_10 : decode prog_9_method_34_code 10 = .ok (.aload_n 0, 1) := by decide +kernel
theorem d_O_revision_11 : decode prog_9_method_34_code 11 = .ok (.iload_n 1, 1) := by decide +kernel
theorem d_O_revision_12 : decode prog_9_method_34_code 12 = .ok (.iload_n 2, 1) := by decide +kernel
theorem d_O_revision_13 : decode prog_9_method_34_code 13 = .ok (.invokevirtual 162, 3) := by decide +kernel
theorem d_O_revision_16 : decode prog_9_method_34_code 16 = .ok (.istore 4, 2) := by decide +kernel
theorem d_O_revision_18 : decode prog_9_method_34_code 18 = .ok (.aload_n 0, 1) := by decide +kernel
theorem d_O_revision_19 : decode prog_9_method_34_code 19 = .ok (.iload 4, 2) := by decide +kernel
theorem d_O_revision_21 : decode prog_9_method_34_code 21 = .ok (.iconst (-1), 1) := by decide +kernel
theorem d_O_revision_22 : decode prog_9_method_34_code 22 = .ok (.if_icmp .eq 17, 3) := by decide +kernel
theorem d_O_revision_25 : decode prog_9_method_34_code 25 = .ok (.iload_n 3, 1) := by decide +kernel
theorem d_O_revision_26 : decode prog_9_method_34_code 26 = .ok (.iconst 1, 1) := by decide +kernel
theorem d_O_revision_27 : decode prog_9_method_34_code 27 = .ok (.if_icmp .ne 16, 3) := by decide +kernel
theorem d_O_revision_30 : decode prog_9_method_34_code 30 = .ok (.aload_n 0, 1) := by decide +kernel
theorem d_O_revision_31 : decode prog_9_method_34_code 31 = .ok (.iload_n 1, 1) := by decide +kernel
theorem d_O_revision_32 : decode prog_9_method_34_code 32 = .ok (.iload_n 2, 1) := by decide +kernel
theorem d_O_revision_33 : decode prog_9_method_34_code 33 = .ok (.invokevirtual 156, 3) := by decide +kernel
theorem d_O_revision_36 : decode prog_9_method_34_code 36 = .ok (.ifCond .ne 7, 3) := by decide +kernel
theorem d_O_revision_39 : decode prog_9_method_34_code 39 = .ok (.iconst 1, 1) := by decide +kernel
theorem d_O_revision_40 : decode prog_9_method_34_code 40 = .ok (.goto 17, 3) := by decide +kernel
theorem d_O_revision_43 : decode prog_9_method_34_code 43 = .ok (.iload_n 3, 1) := by decide +kernel
theorem d_O_revision_44 : decode prog_9_method_34_code 44 = .ok (.ifCond .lt 8, 3) := by decide +kernel
theorem d_O_revision_47 : decode prog_9_method_34_code 47 = .ok (.iload_n 3, 1) := by decide +kernel
theorem d_O_revision_48 : decode prog_9_method_34_code 48 = .ok (.iconst 2, 1) := by decide +kernel
theorem d_O_revision_49 : decode prog_9_method_34_code 49 = .ok (.if_icmp .le 7, 3) := by decide +kernel
theorem d_O_revision_52 : decode prog_9_method_34_code 52 = .ok (.iconst 2, 1) := by decide +kernel
theorem d_O_revision_53 : decode prog_9_method_34_code 53 = .ok (.goto 4, 3) := by decide +kernel
theorem d_O_revision_56 : decode prog_9_method_34_code 56 = .ok (.iconst 0, 1) := by decide +kernel
theorem d_O_revision_57 : decode prog_9_method_34_code 57 = .ok (.putfield 62, 3) := by decide +kernel
theorem d_O_revision_60 : decode prog_9_method_34_code 60 = .ok (.aload_n 0, 1) := by decide +kernel
theorem d_O_revision_61 : decode prog_9_method_34_code 61 = .ok (.getfield 62, 3) := by decide +kernel
theorem d_O_revision_64 : decode prog_9_method_34_code 64 = .ok (.ifCond .eq 7, 3) := by decide +kernel
theorem d_O_revision_67 : decode prog_9_method_34_code 67 = .ok (.iconst 0, 1) := by decide +kernel
theorem d_O_revision_68 : decode prog_9_method_34_code 68 = .ok (.goto 39, 3) := by decide +kernel
theorem d_O_revision_71 : decode prog_9_method_34_code 71 = .ok (.iload_n 3, 1) := by decide +kernel
theorem d_O_revision_72 : decode prog_9_method_34_code 72 = .ok (.ifCond .ne 13, 3) := by decide +kernel
theorem d_O_revision_75 : decode prog_9_method_34_code 75 = .ok (.aload_n 0, 1) := by decide +kernel
theorem d_O_revision_76 : decode prog_9_method_34_code 76 = .ok (.getfield 28, 3) := by decide +kernel
theorem d_O_revision_79 : decode prog_9_method_34_code 79 = .ok (.iload 4, 2) := by decide +kernel
theorem d_O_revision_81 : decode prog_9_method_34_code 81 = .ok (.saload, 1) := by decide +kernel
theorem d_O_revision_82 : decode prog_9_method_34_code 82 = .ok (.goto 25, 3) := by decide +kernel
theorem d_O_revision_85 : decode prog_9_method_34_code 85 = .ok (.iload_n 3, 1) := by decide +kernel
theorem d_O_revision_86 : decode prog_9_method_34_code 86 = .ok (.iconst 1, 1) := by decide +kernel
theorem d_O_revision_87 : decode prog_9_method_34_code 87 = .ok (.if_icmp .ne 13, 3) := by decide +kernel
theorem d_O_revision_90 : decode prog_9_method_34_code 90 = .ok (.aload_n 0, 1) := by decide +kernel
theorem d_O_revision_91 : decode prog_9_method_34_code 91 = .ok (.getfield 32, 3) := by decide +kernel
theorem d_O_revision_94 : decode prog_9_method_34_code 94 = .ok (.iload 4, 2) := by decide +kernel
theorem d_O_revision_96 : decode prog_9_method_34_code 96 = .ok (.iaload, 1) := by decide +kernel
theorem d_O_revision_97 : decode prog_9_method_34_code 97 = .ok (.goto 10, 3) := by decide +kernel
theorem d_O_revision_100 : decode prog_9_method_34_code 100 = .ok (.aload_n 0, 1) := by decide +kernel
theorem d_O_revision_101 : decode prog_9_method_34_code 101 = .ok (.getfield 35, 3) := by decide +kernel
theorem d_O_revision_104 : decode prog_9_method_34_code 104 = .ok (.iload 4, 2) := by decide +kernel
theorem d_O_revision_106 : decode prog_9_method_34_code 106 = .ok (.iaload, 1) := by decide +kernel
theorem d_O_revision_107 : decode prog_9_method_34_code 107 = .ok (.ireturn, 1) := by decide +kernel
theorem d_O_run_0 : decode prog_9_method_24_code 0 = .ok (.iconst 0, 1) := by decide +kernel
theorem d_O_run_1 : decode prog_9_method_24_code 1 = .ok (.istore_n 3, 1) := by decide +kernel
theorem d_O_run_2 : decode prog_9_method_24_code 2 = .ok (.iload_n 1, 1) := by decide +kernel
theorem d_O_run_3 : decode prog_9_method_24_code 3 = .ok (.iload_n 3, 1) := by decide +kernel
theorem d_O_run_4 : decode prog_9_method_24_code 4 = .ok (.iadd, 1) := by decide +kernel
theorem d_O_run_5 : decode prog_9_method_24_code 5 = .ok (.aload_n 0, 1) := by decide +kernel
theorem d_O_run_6 : decode prog_9_method_24_code 6 = .ok (.getfield 69, 3) := by decide +kernel
theorem d_O_run_9 : decode prog_9_method_24_code 9 = .ok (.if_icmp .ge 38, 3) := by decide +kernel
theorem d_O_run_12 : decode prog_9_method_24_code 12 = .ok (.iload_n 2, 1) := by decide +kernel
theorem d_O_run_13 : decode prog_9_method_24_code 13 = .ok (.iload_n 3, 1) := by decide +kernel
theorem d_O_run_14 : decode prog_9_method_24_code 14 = .ok (.iadd, 1) := by decide +kernel
theorem d_O_run_15 : decode prog_9_method_24_code 15 = .ok (.aload_n 0, 1) := by decide +kernel
theorem d_O_run_16 : decode prog_9_method_24_code 16 = .ok (.getfield 113, 3) := by decide +kernel
theorem d_O_run_19 : decode prog_9_method_24_code 19 = .ok (.if_icmp .ge 28, 3) := by decide +kernel
theorem d_O_run_22 : decode prog_9_method_24_code 22 = .ok (.aload_n 0, 1) := by decide +kernel
theorem d_O_run_23 : decode prog_9_method_24_code 23 = .ok (.getfield 13, 3) := by decide +kernel
theorem d_O_run_26 : decode prog_9_method_24_code 26 = .ok (.iload_n 1, 1) := by decide +kernel
theorem d_O_run_27 : decode prog_9_method_24_code 27 = .ok (.iload_n 3, 1) := by decide +kernel
theorem d_O_run_28 : decode prog_9_method_24_code 28 = .ok (.iadd, 1) := by decide +kernel
theorem d_O_run_29 : decode prog_9_method_24_code 29 = .ok (.baload, 1) := by decide +kernel
theorem d_O_run_30 : decode prog_9_method_24_code 30 = .ok (.aload_n 0, 1) := by decide +kernel
theorem d_O_run_31 : decode prog_9_method_24_code 31 = .ok (.getfield 41, 3) := by decide +kernel
theorem d_O_run_34 : decode prog_9_method_24_code 34 = .ok (.iload_n 2, 1) := by decide +kernel
theorem d_O_run_35 : decode prog_9_method_24_code 35 = .ok (.iload_n 3, 1) := by decide +kernel
theorem d_O_run_36 : decode prog_9_method_24_code 36 = .ok (.iadd, 1) := by decide +kernel
theorem d_O_run_37 : decode prog_9_method_24_code 37 = .ok (.baload, 1) := by decide +kernel
theorem d_O_run_38 : decode prog_9_method_24_code 38 = .ok (.if_icmp .ne 9, 3) := by decide +kernel
theorem d_O_run_41 : decode prog_9_method_24_code 41 = .ok (.iinc 3 1, 3) := by decide +kernel
theorem d_O_run_44 : decode prog_9_method_24_code 44 = .ok (.goto (-42), 3) := by decide +kernel
theorem d_O_run_47 : decode prog_9_method_24_code 47 = .ok (.iload_n 3, 1) := by decide +kernel
theorem d_O_run_48 : decode prog_9_method_24_code 48 = .ok (.ireturn, 1) := by decide +kernel
theorem d_O_runs_0 : decode prog_9_method_3_code 0 = .ok (.aload_n 0, 1) := by decide +kernel
theorem d_O_runs_1 : decode prog_9_method_3_code 1 = .ok (.aload_n 0, 1) := by decide +kernel
theorem d_O_runs_2 : decode prog_9_method_3_code 2 = .ok (.getfield 65, 3) := by decide +kernel
theorem d_O_runs_5 : decode prog_9_method_3_code 5 = .ok (.ifCond .eq 7, 3) := by decide +kernel
theorem d_O_runs_8 : decode prog_9_method_3_code 8 = .ok (.iload_n 1, 1) := by decide +kernel
theorem d_O_runs_9 : decode prog_9_method_3_code 9 = .ok (.goto 4, 3) := by decide +kernel
theorem d_O_runs_12 : decode prog_9_method_3_code 12 = .ok (.iconst 0, 1) := by decide +kernel
theorem d_O_runs_13 : decode prog_9_method_3_code 13 = .ok (.putfield 62, 3) := by decide +kernel
theorem d_O_runs_16 : decode prog_9_method_3_code 16 = .ok (.aload_n 0, 1) := by decide +kernel
theorem d_O_runs_17 : decode prog_9_method_3_code 17 = .ok (.getfield 65, 3) := by decide +kernel
theorem d_O_runs_20 : decode prog_9_method_3_code 20 = .ok (.ifCond .ne 7, 3) := by decide +kernel
theorem d_O_runs_23 : decode prog_9_method_3_code 23 = .ok (.iconst 1, 1) := by decide +kernel
theorem d_O_runs_24 : decode prog_9_method_3_code 24 = .ok (.goto 4, 3) := by decide +kernel
theorem d_O_runs_27 : decode prog_9_method_3_code 27 = .ok (.iconst 0, 1) := by decide +kernel
theorem d_O_runs_28 : decode prog_9_method_3_code 28 = .ok (.ireturn, 1) := by decide +kernel
theorem d_O_start_0 : decode prog_9_method_41_code 0 = .ok (.aload_n 0, 1) := by decide +kernel
theorem d_O_start_1 : decode prog_9_method_41_code 1 = .ok (.iconst 0, 1) := by decide +kernel
theorem d_O_start_2 : decode prog_9_method_41_code 2 = .ok (.putfield 62, 3) := by decide +kernel
theorem d_O_start_5 : decode prog_9_method_41_code 5 = .ok (.aload_n 0, 1) := by decide +kernel
theorem d_O_start_6 : decode prog_9_method_41_code 6 = .ok (.getfield 65, 3) := by decide +kernel
theorem d_O_start_9 : decode prog_9_method_41_code 9 = .ok (.istore_n 1, 1) := by decide +kernel
theorem d_O_start_10 : decode prog_9_method_41_code 10 = .ok (.aload_n 0, 1) := by decide +kernel
theorem d_O_start_11 : decode prog_9_method_41_code 11 = .ok (.iconst 0, 1) := by decide +kernel
theorem d_O_start_12 : decode prog_9_method_41_code 12 = .ok (.putfield 65, 3) := by decide +kernel
theorem d_O_start_15 : decode prog_9_method_41_code 15 = .ok (.aload_n 0, 1) := by decide +kernel
theorem d_O_start_16 : decode prog_9_method_41_code 16 = .ok (.iload_n 1, 1) := by decide +kernel
theorem d_O_start_17 : decode prog_9_method_41_code 17 = .ok (.ifCond .eq 7, 3) := by decide +kernel
theorem d_O_start_20 : decode prog_9_method_41_code 20 = .ok (.iconst (-1), 1) := by decide +kernel
theorem d_O_start_21 : decode prog_9_method_41_code 21 = .ok (.goto 7, 3) := by decide +kernel
theorem d_O_start_24 : decode prog_9_method_41_code 24 = .ok (.aload_n 0, 1) := by decide +kernel
theorem d_O_start_25 : decode prog_9_method_41_code 25 = .ok (.getfield 9, 3) := by decide +kernel
theorem d_O_start_28 : decode prog_9_method_41_code 28 = .ok (.putfield 9, 3) := by decide +kernel
theorem d_O_start_31 : decode prog_9_method_41_code 31 = .ok (.iload_n 1, 1) := by decide +kernel
theorem d_O_start_32 : decode prog_9_method_41_code 32 = .ok (.ireturn, 1) := by decide +kernel
theorem d_O_steps_0 : decode prog_9_method_30_code 0 = .ok (.aload_n 0, 1) := by decide +kernel
theorem d_O_steps_1 : decode prog_9_method_30_code 1 = .ok (.iconst 1, 1) := by decide +kernel
theorem d_O_steps_2 : decode prog_9_method_30_code 2 = .ok (.invokevirtual 72, 3) := by decide +kernel
theorem d_O_steps_5 : decode prog_9_method_30_code 5 = .ok (.ifCond .eq 10, 3) := by decide +kernel
theorem d_O_steps_8 : decode prog_9_method_30_code 8 = .ok (.aload_n 0, 1) := by decide +kernel
theorem d_O_steps_9 : decode prog_9_method_30_code 9 = .ok (.getfield 53, 3) := by decide +kernel
theorem d_O_steps_12 : decode prog_9_method_30_code 12 = .ok (.goto 4, 3) := by decide +kernel
theorem d_O_steps_15 : decode prog_9_method_30_code 15 = .ok (.iconst 0, 1) := by decide +kernel
theorem d_O_steps_16 : decode prog_9_method_30_code 16 = .ok (.ireturn, 1) := by decide +kernel
theorem d_O_sum_0 : decode prog_9_method_26_code 0 = .ok (.iconst 0, 1) := by decide +kernel
theorem d_O_sum_1 : decode prog_9_method_26_code 1 = .ok (.istore_n 3, 1) := by decide +kernel
theorem d_O_sum_2 : decode prog_9_method_26_code 2 = .ok (.iconst 0, 1) := by decide +kernel
theorem d_O_sum_3 : decode prog_9_method_26_code 3 = .ok (.istore 4, 2) := by decide +kernel
theorem d_O_sum_5 : decode prog_9_method_26_code 5 = .ok (.iload 4, 2) := by decide +kernel
theorem d_O_sum_7 : decode prog_9_method_26_code 7 = .ok (.iload_n 2, 1) := by decide +kernel
theorem d_O_sum_8 : decode prog_9_method_26_code 8 = .ok (.if_icmp .ge 25, 3) := by decide +kernel
theorem d_O_sum_11 : decode prog_9_method_26_code 11 = .ok (.iload_n 3, 1) := by decide +kernel
theorem d_O_sum_12 : decode prog_9_method_26_code 12 = .ok (.bipush 31, 2) := by decide +kernel
theorem d_O_sum_14 : decode prog_9_method_26_code 14 = .ok (.imul, 1) := by decide +kernel
theorem d_O_sum_15 : decode prog_9_method_26_code 15 = .ok (.aload_n 1, 1) := by decide +kernel
theorem d_O_sum_16 : decode prog_9_method_26_code 16 = .ok (.iload 4, 2) := by decide +kernel
theorem d_O_sum_18 : decode prog_9_method_26_code 18 = .ok (.baload, 1) := by decide +kernel
theorem d_O_sum_19 : decode prog_9_method_26_code 19 = .ok (.sipush 255, 3) := by decide +kernel
theorem d_O_sum_22 : decode prog_9_method_26_code 22 = .ok (.iand, 1) := by decide +kernel
theorem d_O_sum_23 : decode prog_9_method_26_code 23 = .ok (.iadd, 1) := by decide +kernel
theorem d_O_sum_24 : decode prog_9_method_26_code 24 = .ok (.iconst 1, 1) := by decide +kernel
theorem d_O_sum_25 : decode prog_9_method_26_code 25 = .ok (.iadd, 1) := by decide +kernel
theorem d_O_sum_26 : decode prog_9_method_26_code 26 = .ok (.istore_n 3, 1) := by decide +kernel
theorem d_O_sum_27 : decode prog_9_method_26_code 27 = .ok (.iinc 4 1, 3) := by decide +kernel
theorem d_O_sum_30 : decode prog_9_method_26_code 30 = .ok (.goto (-25), 3) := by decide +kernel
theorem d_O_sum_33 : decode prog_9_method_26_code 33 = .ok (.iload_n 3, 1) := by decide +kernel
theorem d_O_sum_34 : decode prog_9_method_26_code 34 = .ok (.ireturn, 1) := by decide +kernel
theorem d_O_thrown_0 : decode prog_9_method_2_code 0 = .ok (.aload_n 0, 1) := by decide +kernel
theorem d_O_thrown_1 : decode prog_9_method_2_code 1 = .ok (.getfield 62, 3) := by decide +kernel
theorem d_O_thrown_4 : decode prog_9_method_2_code 4 = .ok (.ireturn, 1) := by decide +kernel
theorem d_O_trim_0 : decode prog_9_method_31_code 0 = .ok (.aload_n 0, 1) := by decide +kernel
theorem d_O_trim_1 : decode prog_9_method_31_code 1 = .ok (.iconst 1, 1) := by decide +kernel
theorem d_O_trim_2 : decode prog_9_method_31_code 2 = .ok (.invokevirtual 72, 3) := by decide +kernel
theorem d_O_trim_5 : decode prog_9_method_31_code 5 = .ok (.ifCond .eq 20, 3) := by decide +kernel
theorem d_O_trim_8 : decode prog_9_method_31_code 8 = .ok (.aload_n 0, 1) := by decide +kernel
theorem d_O_trim_9 : decode prog_9_method_31_code 9 = .ok (.iload_n 1, 1) := by decide +kernel
theorem d_O_trim_10 : decode prog_9_method_31_code 10 = .ok (.iload_n 2, 1) := by decide +kernel
theorem d_O_trim_11 : decode prog_9_method_31_code 11 = .ok (.invokevirtual 156, 3) := by decide +kernel
theorem d_O_trim_14 : decode prog_9_method_31_code 14 = .ok (.ifCond .eq 11, 3) := by decide +kernel
theorem d_O_trim_17 : decode prog_9_method_31_code 17 = .ok (.aload_n 0, 1) := by decide +kernel
theorem d_O_trim_18 : decode prog_9_method_31_code 18 = .ok (.iconst 1, 1) := by decide +kernel
theorem d_O_trim_19 : decode prog_9_method_31_code 19 = .ok (.invokevirtual 97, 3) := by decide +kernel
theorem d_O_trim_22 : decode prog_9_method_31_code 22 = .ok (.ifCond .ne 5, 3) := by decide +kernel
theorem d_O_trim_25 : decode prog_9_method_31_code 25 = .ok (.iconst 0, 1) := by decide +kernel
theorem d_O_trim_26 : decode prog_9_method_31_code 26 = .ok (.ireturn, 1) := by decide +kernel
theorem d_O_trim_27 : decode prog_9_method_31_code 27 = .ok (.aload_n 0, 1) := by decide +kernel
theorem d_O_trim_28 : decode prog_9_method_31_code 28 = .ok (.getfield 21, 3) := by decide +kernel
theorem d_O_trim_31 : decode prog_9_method_31_code 31 = .ok (.iload_n 1, 1) := by decide +kernel
theorem d_O_trim_32 : decode prog_9_method_31_code 32 = .ok (.iload_n 2, 1) := by decide +kernel
theorem d_O_trim_33 : decode prog_9_method_31_code 33 = .ok (.iastore, 1) := by decide +kernel
theorem d_O_trim_34 : decode prog_9_method_31_code 34 = .ok (.aload_n 0, 1) := by decide +kernel
theorem d_O_trim_35 : decode prog_9_method_31_code 35 = .ok (.iload_n 1, 1) := by decide +kernel
theorem d_O_trim_36 : decode prog_9_method_31_code 36 = .ok (.invokevirtual 159, 3) := by decide +kernel
theorem d_O_trim_39 : decode prog_9_method_31_code 39 = .ok (.iconst 1, 1) := by decide +kernel
theorem d_O_trim_40 : decode prog_9_method_31_code 40 = .ok (.ireturn, 1) := by decide +kernel
theorem d_O_verify_0 : decode prog_9_method_37_code 0 = .ok (.aload_n 0, 1) := by decide +kernel
theorem d_O_verify_1 : decode prog_9_method_37_code 1 = .ok (.iconst 1, 1) := by decide +kernel
theorem d_O_verify_2 : decode prog_9_method_37_code 2 = .ok (.invokevirtual 72, 3) := by decide +kernel
theorem d_O_verify_5 : decode prog_9_method_37_code 5 = .ok (.ifCond .ne 5, 3) := by decide +kernel
theorem d_O_verify_8 : decode prog_9_method_37_code 8 = .ok (.iconst 0, 1) := by decide +kernel
theorem d_O_verify_9 : decode prog_9_method_37_code 9 = .ok (.ireturn, 1) := by decide +kernel
theorem d_O_verify_10 : decode prog_9_method_37_code 10 = .ok (.iconst 0, 1) := by decide +kernel
theorem d_O_verify_11 : decode prog_9_method_37_code 11 = .ok (.istore_n 2, 1) := by decide +kernel
theorem d_O_verify_12 : decode prog_9_method_37_code 12 = .ok (.iload_n 2, 1) := by decide +kernel
theorem d_O_verify_13 : decode prog_9_method_37_code 13 = .ok (.bipush 64, 2) := by decide +kernel
theorem d_O_verify_15 : decode prog_9_method_37_code 15 = .ok (.if_icmp .ge 55, 3) := by decide +kernel
theorem d_O_verify_18 : decode prog_9_method_37_code 18 = .ok (.aload_n 0, 1) := by decide +kernel
theorem d_O_verify_19 : decode prog_9_method_37_code 19 = .ok (.iload_n 1, 1) := by decide +kernel
theorem d_O_verify_20 : decode prog_9_method_37_code 20 = .ok (.iload_n 2, 1) := by decide +kernel
theorem d_O_verify_21 : decode prog_9_method_37_code 21 = .ok (.invokevirtual 156, 3) := by decide +kernel
theorem d_O_verify_24 : decode prog_9_method_37_code 24 = .ok (.ifCond .eq 40, 3) := by decide +kernel
theorem d_O_verify_27 : decode prog_9_method_37_code 27 = .ok (.aload_n 0, 1) := by decide +kernel
theorem d_O_verify_28 : decode prog_9_method_37_code 28 = .ok (.iload_n 1, 1) := by decide +kernel
theorem d_O_verify_29 : decode prog_9_method_37_code 29 = .ok (.iload_n 2, 1) := by decide +kernel
theorem d_O_verify_30 : decode prog_9_method_37_code 30 = .ok (.invokevirtual 142, 3) := by decide +kernel
theorem d_O_verify_33 : decode prog_9_method_37_code 33 = .ok (.ifCond .eq 29, 3) := by decide +kernel
theorem d_O_verify_36 : decode prog_9_method_37_code 36 = .ok (.aload_n 0, 1) := by decide +kernel
theorem d_O_verify_37 : decode prog_9_method_37_code 37 = .ok (.aload_n 0, 1) := by decide +kernel
theorem d_O_verify_38 : decode prog_9_method_37_code 38 = .ok (.getfield 41, 3) := by decide +kernel
theorem d_O_verify_41 : decode prog_9_method_37_code 41 = .ok (.aload_n 0, 1) := by decide +kernel
theorem d_O_verify_42 : decode prog_9_method_37_code 42 = .ok (.getfield 113, 3) := by decide +kernel
theorem d_O_verify_45 : decode prog_9_method_37_code 45 = .ok (.invokevirtual 152, 3) := by decide +kernel
theorem d_O_verify_48 : decode prog_9_method_37_code 48 = .ok (.aload_n 0, 1) := by decide +kernel
theorem d_O_verify_49 : decode prog_9_method_37_code 49 = .ok (.getfield 35, 3) := by decide +kernel
theorem d_O_verify_52 : decode prog_9_method_37_code 52 = .ok (.bipush 64, 2) := by decide +kernel
theorem d_O_verify_54 : decode prog_9_method_37_code 54 = .ok (.iload_n 1, 1) := by decide +kernel
theorem d_O_verify_55 : decode prog_9_method_37_code 55 = .ok (.imul, 1) := by decide +kernel
theorem d_O_verify_56 : decode prog_9_method_37_code 56 = .ok (.iload_n 2, 1) := by decide +kernel
theorem d_O_verify_57 : decode prog_9_method_37_code 57 = .ok (.iadd, 1) := by decide +kernel
theorem d_O_verify_58 : decode prog_9_method_37_code 58 = .ok (.iaload, 1) := by decide +kernel
theorem d_O_verify_59 : decode prog_9_method_37_code 59 = .ok (.if_icmp .eq 5, 3) := by decide +kernel
theorem d_O_verify_62 : decode prog_9_method_37_code 62 = .ok (.iload_n 2, 1) := by decide +kernel
theorem d_O_verify_63 : decode prog_9_method_37_code 63 = .ok (.ireturn, 1) := by decide +kernel
theorem d_O_verify_64 : decode prog_9_method_37_code 64 = .ok (.iinc 2 1, 3) := by decide +kernel
theorem d_O_verify_67 : decode prog_9_method_37_code 67 = .ok (.goto (-55), 3) := by decide +kernel
theorem d_O_verify_70 : decode prog_9_method_37_code 70 = .ok (.iconst (-1), 1) := by decide +kernel
theorem d_O_verify_71 : decode prog_9_method_37_code 71 = .ok (.ireturn, 1) := by decide +kernel
theorem d_O_writes_0 : decode prog_9_method_4_code 0 = .ok (.aload_n 0, 1) := by decide +kernel
theorem d_O_writes_1 : decode prog_9_method_4_code 1 = .ok (.getfield 9, 3) := by decide +kernel
theorem d_O_writes_4 : decode prog_9_method_4_code 4 = .ok (.iconst (-1), 1) := by decide +kernel
theorem d_O_writes_5 : decode prog_9_method_4_code 5 = .ok (.if_icmp .eq 11, 3) := by decide +kernel
theorem d_O_writes_8 : decode prog_9_method_4_code 8 = .ok (.aload_n 0, 1) := by decide +kernel
theorem d_O_writes_9 : decode prog_9_method_4_code 9 = .ok (.getfield 9, 3) := by decide +kernel
theorem d_O_writes_12 : decode prog_9_method_4_code 12 = .ok (.iload_n 1, 1) := by decide +kernel
theorem d_O_writes_13 : decode prog_9_method_4_code 13 = .ok (.if_icmp .lt 27, 3) := by decide +kernel
theorem d_O_writes_16 : decode prog_9_method_4_code 16 = .ok (.aload_n 0, 1) := by decide +kernel
theorem d_O_writes_17 : decode prog_9_method_4_code 17 = .ok (.aload_n 0, 1) := by decide +kernel
theorem d_O_writes_18 : decode prog_9_method_4_code 18 = .ok (.getfield 9, 3) := by decide +kernel
theorem d_O_writes_21 : decode prog_9_method_4_code 21 = .ok (.iconst (-1), 1) := by decide +kernel
theorem d_O_writes_22 : decode prog_9_method_4_code 22 = .ok (.if_icmp .ne 7, 3) := by decide +kernel
theorem d_O_writes_25 : decode prog_9_method_4_code 25 = .ok (.iconst (-1), 1) := by decide +kernel
theorem d_O_writes_26 : decode prog_9_method_4_code 26 = .ok (.goto 9, 3) := by decide +kernel
theorem d_O_writes_29 : decode prog_9_method_4_code 29 = .ok (.aload_n 0, 1) := by decide +kernel
theorem d_O_writes_30 : decode prog_9_method_4_code 30 = .ok (.getfield 9, 3) := by decide +kernel
theorem d_O_writes_33 : decode prog_9_method_4_code 33 = .ok (.iload_n 1, 1) := by decide +kernel
theorem d_O_writes_34 : decode prog_9_method_4_code 34 = .ok (.isub, 1) := by decide +kernel
theorem d_O_writes_35 : decode prog_9_method_4_code 35 = .ok (.putfield 9, 3) := by decide +kernel
theorem d_O_writes_38 : decode prog_9_method_4_code 38 = .ok (.iconst 1, 1) := by decide +kernel
theorem d_O_writes_39 : decode prog_9_method_4_code 39 = .ok (.ireturn, 1) := by decide +kernel
theorem d_O_writes_40 : decode prog_9_method_4_code 40 = .ok (.aload_n 0, 1) := by decide +kernel
theorem d_O_writes_41 : decode prog_9_method_4_code 41 = .ok (.iconst 1, 1) := by decide +kernel
theorem d_O_writes_42 : decode prog_9_method_4_code 42 = .ok (.putfield 65, 3) := by decide +kernel
theorem d_O_writes_45 : decode prog_9_method_4_code 45 = .ok (.aload_n 0, 1) := by decide +kernel
theorem d_O_writes_46 : decode prog_9_method_4_code 46 = .ok (.iconst (-1), 1) := by decide +kernel
theorem d_O_writes_47 : decode prog_9_method_4_code 47 = .ok (.putfield 9, 3) := by decide +kernel
theorem d_O_writes_50 : decode prog_9_method_4_code 50 = .ok (.aload_n 0, 1) := by decide +kernel
theorem d_O_writes_51 : decode prog_9_method_4_code 51 = .ok (.iconst 0, 1) := by decide +kernel
theorem d_O_writes_52 : decode prog_9_method_4_code 52 = .ok (.putfield 69, 3) := by decide +kernel
theorem d_O_writes_55 : decode prog_9_method_4_code 55 = .ok (.aload_n 0, 1) := by decide +kernel
theorem d_O_writes_56 : decode prog_9_method_4_code 56 = .ok (.iconst 1, 1) := by decide +kernel
theorem d_O_writes_57 : decode prog_9_method_4_code 57 = .ok (.putfield 62, 3) := by decide +kernel
theorem d_O_writes_60 : decode prog_9_method_4_code 60 = .ok (.iconst 0, 1) := by decide +kernel
theorem d_O_writes_61 : decode prog_9_method_4_code 61 = .ok (.ireturn, 1) := by decide +kernel
theorem d_I_bitCount_0 : decode prog_14_method_49_code 0 = .ok (.iload_n 0, 1) := by decide +kernel
theorem d_I_bitCount_1 : decode prog_14_method_49_code 1 = .ok (.iload_n 0, 1) := by decide +kernel
theorem d_I_bitCount_2 : decode prog_14_method_49_code 2 = .ok (.iconst 1, 1) := by decide +kernel
theorem d_I_bitCount_3 : decode prog_14_method_49_code 3 = .ok (.iushr, 1) := by decide +kernel
theorem d_I_bitCount_4 : decode prog_14_method_49_code 4 = .ok (.ldc_w 265, 3) := by decide +kernel
theorem d_I_bitCount_7 : decode prog_14_method_49_code 7 = .ok (.iand, 1) := by decide +kernel
theorem d_I_bitCount_8 : decode prog_14_method_49_code 8 = .ok (.isub, 1) := by decide +kernel
theorem d_I_bitCount_9 : decode prog_14_method_49_code 9 = .ok (.istore_n 0, 1) := by decide +kernel
theorem d_I_bitCount_10 : decode prog_14_method_49_code 10 = .ok (.iload_n 0, 1) := by decide +kernel
theorem d_I_bitCount_11 : decode prog_14_method_49_code 11 = .ok (.ldc_w 266, 3) := by decide +kernel
theorem d_I_bitCount_14 : decode prog_14_method_49_code 14 = .ok (.iand, 1) := by decide +kernel
theorem d_I_bitCount_15 : decode prog_14_method_49_code 15 = .ok (.iload_n 0, 1) := by decide +kernel
theorem d_I_bitCount_16 : decode prog_14_method_49_code 16 = .ok (.iconst 2, 1) := by decide +kernel
theorem d_I_bitCount_17 : decode prog_14_method_49_code 17 = .ok (.iushr, 1) := by decide +kernel
theorem d_I_bitCount_18 : decode prog_14_method_49_code 18 = .ok (.ldc_w 266, 3) := by decide +kernel
theorem d_I_bitCount_21 : decode prog_14_method_49_code 21 = .ok (.iand, 1) := by decide +kernel
theorem d_I_bitCount_22 : decode prog_14_method_49_code 22 = .ok (.iadd, 1) := by decide +kernel
theorem d_I_bitCount_23 : decode prog_14_method_49_code 23 = .ok (.istore_n 0, 1) := by decide +kernel
theorem d_I_bitCount_24 : decode prog_14_method_49_code 24 = .ok (.iload_n 0, 1) := by decide +kernel
theorem d_I_bitCount_25 : decode prog_14_method_49_code 25 = .ok (.iload_n 0, 1) := by decide +kernel
theorem d_I_bitCount_26 : decode prog_14_method_49_code 26 = .ok (.iconst 4, 1) := by decide +kernel
theorem d_I_bitCount_27 : decode prog_14_method_49_code 27 = .ok (.iushr, 1) := by decide +kernel
theorem d_I_bitCount_28 : decode prog_14_method_49_code 28 = .ok (.iadd, 1) := by decide +kernel
theorem d_I_bitCount_29 : decode prog_14_method_49_code 29 = .ok (.ldc_w 267, 3) := by decide +kernel
theorem d_I_bitCount_32 : decode prog_14_method_49_code 32 = .ok (.iand, 1) := by decide +kernel
theorem d_I_bitCount_33 : decode prog_14_method_49_code 33 = .ok (.istore_n 0, 1) := by decide +kernel
theorem d_I_bitCount_34 : decode prog_14_method_49_code 34 = .ok (.iload_n 0, 1) := by decide +kernel
theorem d_I_bitCount_35 : decode prog_14_method_49_code 35 = .ok (.iload_n 0, 1) := by decide +kernel
theorem d_I_bitCount_36 : decode prog_14_method_49_code 36 = .ok (.bipush 8, 2) := by decide +kernel
theorem d_I_bitCount_38 : decode prog_14_method_49_code 38 = .ok (.iushr, 1) := by decide +kernel
theorem d_I_bitCount_39 : decode prog_14_method_49_code 39 = .ok (.iadd, 1) := by decide +kernel
theorem d_I_bitCount_40 : decode prog_14_method_49_code 40 = .ok (.istore_n 0, 1) := by decide +kernel
theorem d_I_bitCount_41 : decode prog_14_method_49_code 41 = .ok (.iload_n 0, 1) := by decide +kernel
theorem d_I_bitCount_42 : decode prog_14_method_49_code 42 = .ok (.iload_n 0, 1) := by decide +kernel
theorem d_I_bitCount_43 : decode prog_14_method_49_code 43 = .ok (.bipush 16, 2) := by decide +kernel
theorem d_I_bitCount_45 : decode prog_14_method_49_code 45 = .ok (.iushr, 1) := by decide +kernel
theorem d_I_bitCount_46 : decode prog_14_method_49_code 46 = .ok (.iadd, 1) := by decide +kernel
theorem d_I_bitCount_47 : decode prog_14_method_49_code 47 = .ok (.istore_n 0, 1) := by decide +kernel
theorem d_I_bitCount_48 : decode prog_14_method_49_code 48 = .ok (.iload_n 0, 1) := by decide +kernel
theorem d_I_bitCount_49 : decode prog_14_method_49_code 49 = .ok (.bipush 63, 2) := by decide +kernel
theorem d_I_bitCount_51 : decode prog_14_method_49_code 51 = .ok (.iand, 1) := by decide +kernel
theorem d_I_bitCount_52 : decode prog_14_method_49_code 52 = .ok (.ireturn, 1) := by decide +kernel
theorem d_A_copyOf_0 : decode prog_19_method_121_code 0 = .ok (.iload_n 1, 1) := by decide +kernel
theorem d_A_copyOf_1 : decode prog_19_method_121_code 1 = .ok (.aload_n 0, 1) := by decide +kernel
theorem d_A_copyOf_2 : decode prog_19_method_121_code 2 = .ok (.arraylength, 1) := by decide +kernel
theorem d_A_copyOf_3 : decode prog_19_method_121_code 3 = .ok (.if_icmp .ne 11, 3) := by decide +kernel
theorem d_A_copyOf_6 : decode prog_19_method_121_code 6 = .ok (.aload_n 0, 1) := by decide +kernel
theorem d_A_copyOf_14 : decode prog_19_method_121_code 14 = .ok (.iload_n 1, 1) := by decide +kernel
theorem d_A_copyOf_15 : decode prog_19_method_121_code 15 = .ok (.newarray .byte, 2) := by decide +kernel
theorem d_A_copyOf_17 : decode prog_19_method_121_code 17 = .ok (.astore_n 2, 1) := by decide +kernel
theorem d_A_copyOf_18 : decode prog_19_method_121_code 18 = .ok (.aload_n 0, 1) := by decide +kernel
theorem d_A_copyOf_19 : decode prog_19_method_121_code 19 = .ok (.iconst 0, 1) := by decide +kernel
theorem d_A_copyOf_20 : decode prog_19_method_121_code 20 = .ok (.aload_n 2, 1) := by decide +kernel
theorem d_A_copyOf_21 : decode prog_19_method_121_code 21 = .ok (.iconst 0, 1) := by decide +kernel
theorem d_A_copyOf_22 : decode prog_19_method_121_code 22 = .ok (.aload_n 0, 1) := by decide +kernel
theorem d_A_copyOf_23 : decode prog_19_method_121_code 23 = .ok (.arraylength, 1) := by decide +kernel
theorem d_A_copyOf_24 : decode prog_19_method_121_code 24 = .ok (.iload_n 1, 1) := by decide +kernel
theorem d_A_copyOf_25 : decode prog_19_method_121_code 25 = .ok (.invokestatic 304, 3) := by decide +kernel
theorem d_A_copyOf_28 : decode prog_19_method_121_code 28 = .ok (.invokestatic 150, 3) := by decide +kernel
theorem d_A_copyOf_31 : decode prog_19_method_121_code 31 = .ok (.aload_n 2, 1) := by decide +kernel
theorem d_A_copyOf_32 : decode prog_19_method_121_code 32 = .ok (.areturn, 1) := by decide +kernel
end
