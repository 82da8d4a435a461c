/-! the words that all contracts share, the nest mates' words, facts on the tables -/
def w0 : List Cond := [.methodLink R_P 1 objectInit,
  .instanceMethod objectInit,
  .code objectInit ⟨#[0xb1]⟩ 1 none,
  .fieldLink R_P 7 "TextKeeper$Power" "down" "Z",
  .fieldLink R_P 13 "TextKeeper$Power" "going" "Z",
  .fieldLink R_P 16 "TextKeeper$Power" "writesLeft" "I",
  .methodLink R_T 3 objectInit,
  .arrayClass .byte,
  .fieldLink R_T 9 "TextKeeper$Text" "bytes" "[B",
  .fieldLink R_T 15 "TextKeeper$Text" "length" "I",
  .methodLink R_W 3 objectInit,
  .fieldLink R_W 9 "TextKeeper$PieceWriter" "row" "[B",
  .fieldLink R_W 15 "TextKeeper$PieceWriter" "length" "I",
  .methodLink R_M 3 objectInit,
  .classLink R_M 9 R_T,
  .instantiable R_T 2,
  .initialized R_T,
  .code y_T_init prog_7_method_1_code 1 none,
  .methodLink R_M 11 y_T_init,
  .instanceMethod y_T_init,
  .fieldLink R_M 12 "TextKeeper$Maker" "base" "LTextKeeper$Text;",
  .fieldLink R_M 18 "TextKeeper$Maker" "text" "LTextKeeper$Text;",
  .fieldLink R_M 21 "TextKeeper$Maker" "piece" "[B",
  .fieldLink R_M 25 "TextKeeper$Maker" "at" "I",
  .methodLink R_K 1 objectInit,
  .classLink R_K 9 R_D,
  .fieldLink R_K 11 "TextKeeper" "documents" "[LTextKeeper$Document;",
  .classLink R_K 15 R_T,
  .methodLink R_K 17 y_T_init,
  .fieldLink R_K 18 "TextKeeper" "buffer" "LTextKeeper$Text;",
  .fieldLink R_K 22 "TextKeeper" "fetched" "LTextKeeper$Text;",
  .fieldLink R_K 25 "TextKeeper" "compared" "LTextKeeper$Text;",
  .classLink R_K 28 R_M,
  .instantiable R_M 4,
  .initialized R_M,
  .code y_M_init prog_3_method_1_code 1 none,
  .methodLink R_K 30 y_M_init,
  .instanceMethod y_M_init,
  .fieldLink R_K 31 "TextKeeper" "maker" "LTextKeeper$Maker;",
  .classLink R_K 35 R_W,
  .instantiable R_W 2,
  .initialized R_W,
  .code y_W_init prog_4_method_1_code 1 none,
  .methodLink R_K 37 y_W_init,
  .instanceMethod y_W_init,
  .fieldLink R_K 38 "TextKeeper" "writer" "LTextKeeper$PieceWriter;",
  .classLink R_K 42 R_P,
  .instantiable R_P 3,
  .initialized R_P,
  .code y_P_init prog_5_method_1_code 1 none,
  .methodLink R_K 44 y_P_init,
  .instanceMethod y_P_init,
  .fieldLink R_K 45 "TextKeeper" "power" "LTextKeeper$Power;",
  .fieldLink R_K 49 "TextKeeper" "madeDocuments" "I",
  .fieldLink R_K 53 "TextKeeper" "fetchedSteps" "I",
  .methodLink R_K 74 y_K_documentAt,
  .instanceMethod y_K_documentAt,
  .selects R_K y_K_documentAt y_K_documentAt,
  .initialized R_K,
  .code y_K_documentAt prog_1_method_23_code 2 (some (.object "TextKeeper$Document")),
  .methodLink R_K 56 y_K_needPower,
  .instanceMethod y_K_needPower,
  .selects R_K y_K_needPower y_K_needPower,
  .code y_K_needPower prog_1_method_21_code 1 none,
  .methodLink R_K 149 y_K_keptRevision,
  .instanceMethod y_K_keptRevision,
  .selects R_K y_K_keptRevision y_K_keptRevision,
  .code y_K_keptRevision prog_1_method_24_code 4 (some (.object "TextKeeper$Revision")),
  .methodLink R_K 134 y_T_byteAt,
  .instanceMethod y_T_byteAt,
  .selects R_T y_T_byteAt y_T_byteAt,
  .code y_T_byteAt prog_7_method_2_code 2 (some .int),
  .methodLink R_K 97 y_K_countFree,
  .instanceMethod y_K_countFree,
  .selects R_K y_K_countFree y_K_countFree,
  .code y_K_countFree prog_1_method_26_code 6 (some .int),
  .methodLink R_T 19 y_T_addByte,
  .instanceMethod y_T_addByte,
  .selects R_T y_T_addByte y_T_addByte,
  .code y_T_addByte prog_7_method_4_code 2 none,
  .methodLink R_K 59 y_T_hasRoom,
  .instanceMethod y_T_hasRoom,
  .selects R_T y_T_hasRoom y_T_hasRoom,
  .code y_T_hasRoom prog_7_method_3_code 2 (some .boolean),
  .methodLink R_K 63 y_T_addInt,
  .instanceMethod y_T_addInt,
  .selects R_T y_T_addInt y_T_addInt,
  .code y_T_addInt prog_7_method_5_code 3 none,
  .methodLink R_K 67 y_T_shorten,
  .instanceMethod y_T_shorten,
  .selects R_T y_T_shorten y_T_shorten,
  .code y_T_shorten prog_7_method_6_code 2 (some .boolean),
  .methodLink R_K 190 y_P_lastsFor,
  .instanceMethod y_P_lastsFor,
  .selects R_P y_P_lastsFor y_P_lastsFor,
  .code y_P_lastsFor prog_5_method_4_code 2 (some .boolean),
  .methodLink R_D 3 objectInit,
  .classLink R_D 9 R_V,
  .fieldLink R_D 11 "TextKeeper$Document" "revisions" "[LTextKeeper$Revision;",
  .fieldLink R_D 17 "TextKeeper$Document" "first" "I",
  .fieldLink R_D 21 "TextKeeper$Document" "count" "I",
  .methodLink R_K 70 y_K_spendWrites,
  .instanceMethod y_K_spendWrites,
  .selects R_K y_K_spendWrites y_K_spendWrites,
  .code y_K_spendWrites prog_1_method_22_code 2 none,
  .instantiable R_D 3,
  .initialized R_D,
  .code y_D_init prog_2_method_1_code 1 none,
  .methodLink R_K 73 y_D_init,
  .instanceMethod y_D_init,
  .methodLink R_K 177 y_P_goAfter,
  .instanceMethod y_P_goAfter,
  .selects R_P y_P_goAfter y_P_goAfter,
  .code y_P_goAfter prog_5_method_2_code 2 none,
  .fieldLink R_O 65 "TextKeeperModel" "down" "Z",
  .fieldLink R_O 62 "TextKeeperModel" "thrown" "I",
  .fieldLink R_O 76 "TextKeeperModel" "documents" "I",
  .methodLink R_O 79 y_O_isDocument,
  .instanceMethod y_O_isDocument,
  .selects R_O y_O_isDocument y_O_isDocument,
  .initialized R_O,
  .code y_O_isDocument prog_9_method_7_code 2 (some .boolean),
  .fieldLink R_O 9 "TextKeeperModel" "lasts" "I",
  .methodLink R_O 72 y_O_runs,
  .instanceMethod y_O_runs,
  .selects R_O y_O_runs y_O_runs,
  .code y_O_runs prog_9_method_3_code 2 (some .boolean),
  .methodLink R_O 97 y_O_writes,
  .instanceMethod y_O_writes,
  .selects R_O y_O_writes y_O_writes,
  .code y_O_writes prog_9_method_4_code 2 (some .boolean),
  .methodLink R_O 156 y_O_isAsked,
  .instanceMethod y_O_isAsked,
  .selects R_O y_O_isAsked y_O_isAsked,
  .code y_O_isAsked prog_9_method_8_code 3 (some .boolean),
  .methodLink R_O 162 y_O_kept,
  .instanceMethod y_O_kept,
  .selects R_O y_O_kept y_O_kept,
  .code y_O_kept prog_9_method_9_code 3 (some .int),
  .fieldLink R_O 50 "TextKeeperModel" "textSize" "I",
  .fieldLink R_O 53 "TextKeeperModel" "textSteps" "I",
  .fieldLink R_O 69 "TextKeeperModel" "size" "I",
  .fieldLink R_O 28 "TextKeeperModel" "lengths" "[S",
  .fieldLink R_O 13 "TextKeeperModel" "buffer" "[B",
  .methodLink R_O 1 objectInit,
  .arrayClass .boolean,
  .fieldLink R_O 17 "TextKeeperModel" "gone" "[Z",
  .arrayClass .int,
  .fieldLink R_O 21 "TextKeeperModel" "first" "[I",
  .fieldLink R_O 25 "TextKeeperModel" "many" "[I",
  .arrayClass .short,
  .fieldLink R_O 32 "TextKeeperModel" "authors" "[I",
  .fieldLink R_O 35 "TextKeeperModel" "sums" "[I",
  .fieldLink R_O 38 "TextKeeperModel" "row" "[B",
  .fieldLink R_O 41 "TextKeeperModel" "made" "[B",
  .fieldLink R_O 44 "TextKeeperModel" "base" "[B",
  .fieldLink R_O 47 "TextKeeperModel" "text" "[B",
  .fieldLink R_O 56 "TextKeeperModel" "other" "[B",
  .fieldLink R_O 59 "TextKeeperModel" "piece" "[B",
  .methodLink R_O 148 y_O_free,
  .instanceMethod y_O_free,
  .selects R_O y_O_free y_O_free,
  .code y_O_free prog_9_method_12_code 3 (some .int),
  .laysFinal "TextKeeper" "TextKeeper" "documents" "[LTextKeeper$Document;",
  .laysFinal "TextKeeper" "TextKeeper" "buffer" "LTextKeeper$Text;",
  .laysFinal "TextKeeper" "TextKeeper" "fetched" "LTextKeeper$Text;",
  .laysFinal "TextKeeper" "TextKeeper" "compared" "LTextKeeper$Text;",
  .laysFinal "TextKeeper" "TextKeeper" "maker" "LTextKeeper$Maker;",
  .laysFinal "TextKeeper" "TextKeeper" "writer" "LTextKeeper$PieceWriter;",
  .laysFinal "TextKeeper" "TextKeeper" "power" "LTextKeeper$Power;",
  .lays "TextKeeper" "TextKeeper" "madeDocuments" "I",
  .lays "TextKeeper" "TextKeeper" "fetchedSteps" "I",
  .laysFinal "TextKeeper$Text" "TextKeeper$Text" "bytes" "[B",
  .lays "TextKeeper$Text" "TextKeeper$Text" "length" "I",
  .lays "TextKeeper$Maker" "TextKeeper$Maker" "base" "LTextKeeper$Text;",
  .lays "TextKeeper$Maker" "TextKeeper$Maker" "text" "LTextKeeper$Text;",
  .lays "TextKeeper$Maker" "TextKeeper$Maker" "piece" "[B",
  .lays "TextKeeper$Maker" "TextKeeper$Maker" "at" "I",
  .laysFinal "TextKeeper$PieceWriter" "TextKeeper$PieceWriter" "row" "[B",
  .lays "TextKeeper$PieceWriter" "TextKeeper$PieceWriter" "length" "I",
  .lays "TextKeeper$Power" "TextKeeper$Power" "down" "Z",
  .lays "TextKeeper$Power" "TextKeeper$Power" "going" "Z",
  .lays "TextKeeper$Power" "TextKeeper$Power" "writesLeft" "I",
  .laysFinal "TextKeeper$Document" "TextKeeper$Document" "revisions" "[LTextKeeper$Revision;",
  .lays "TextKeeper$Document" "TextKeeper$Document" "first" "I",
  .lays "TextKeeper$Document" "TextKeeper$Document" "count" "I",
  .laysFinal "TextKeeper$Revision" "TextKeeper$Revision" "piece" "[B",
  .laysFinal "TextKeeper$Revision" "TextKeeper$Revision" "author" "I",
  .laysFinal "TextKeeper$Revision" "TextKeeper$Revision" "sum" "I",
  .lays "TextKeeperModel" "TextKeeperModel" "thrown" "I",
  .lays "TextKeeperModel" "TextKeeperModel" "down" "Z",
  .lays "TextKeeperModel" "TextKeeperModel" "lasts" "I",
  .laysFinal "TextKeeperModel" "TextKeeperModel" "buffer" "[B",
  .lays "TextKeeperModel" "TextKeeperModel" "size" "I",
  .lays "TextKeeperModel" "TextKeeperModel" "documents" "I",
  .laysFinal "TextKeeperModel" "TextKeeperModel" "gone" "[Z",
  .laysFinal "TextKeeperModel" "TextKeeperModel" "first" "[I",
  .laysFinal "TextKeeperModel" "TextKeeperModel" "many" "[I",
  .laysFinal "TextKeeperModel" "TextKeeperModel" "lengths" "[S",
  .laysFinal "TextKeeperModel" "TextKeeperModel" "authors" "[I",
  .laysFinal "TextKeeperModel" "TextKeeperModel" "sums" "[I",
  .laysFinal "TextKeeperModel" "TextKeeperModel" "row" "[B",
  .lays "TextKeeperModel" "TextKeeperModel" "made" "[B",
  .lays "TextKeeperModel" "TextKeeperModel" "madeSize" "I",
  .lays "TextKeeperModel" "TextKeeperModel" "base" "[B",
  .lays "TextKeeperModel" "TextKeeperModel" "baseSize" "I",
  .laysFinal "TextKeeperModel" "TextKeeperModel" "text" "[B",
  .lays "TextKeeperModel" "TextKeeperModel" "textSize" "I",
  .lays "TextKeeperModel" "TextKeeperModel" "textSteps" "I",
  .laysFinal "TextKeeperModel" "TextKeeperModel" "other" "[B",
  .lays "TextKeeperModel" "TextKeeperModel" "otherSize" "I",
  .laysFinal "TextKeeperModel" "TextKeeperModel" "piece" "[B",
  .lays "TextKeeperModel" "TextKeeperModel" "pieceSize" "I",
  .lays "TextKeeperModel" "TextKeeperModel" "at" "I",
  .lays "TextKeeperModel" "TextKeeperModel" "end" "I",
  .lays "TextKeeperModel" "TextKeeperModel" "value" "I"]
def nw0 : List Cond := [.fieldLinkNest R_K 180 "TextKeeper$Power" "down" "Z" "TextKeeper"]
def ao0 : List String := ["TextKeeper$Document", "TextKeeper$Revision"]
def nw_kind : Cond → Bool
  | .fieldLinkNest .. => true
  | .methodLinkNest .. => true
  | .declares .. => true
  | .castable .. => true
  | _ => false
theorem nw0_kind : ∀ w ∈ nw0, nw_kind w = true := by decide +kernel
theorem nw0_tab : ∀ w ∈ nw0, w.onTables = true := by decide +kernel
set_option maxRecDepth 100000 in
set_option maxHeartbeats 4000000 in
theorem w0_ok : GoodIn lw_tbl w0 := goodIn_p _ [61, 68, 85, 106, 119, 314, 183, 560, 360, 415, 258, 250, 254, 269, 284, 280, 288, 620, 743, 723, 735, 802, 841, 790] rfl (by decide +kernel)
theorem w0_good (w : Cond) (h : w ∈ w0) : (w.onTables && w.keeps) = true ∨ ∃ ty, w = .arrayClass ty := (w0_ok w h).2
set_option maxRecDepth 100000 in
theorem in_K : ∀ w ∈ u_ws R_K F_K 9, w ∈ w0 := by decide +kernel
theorem tk_K : ∀ k, k < 9 → parseFieldDescriptor (F_K k).2.2.1 = some (ft_K k) := by decide +kernel
theorem nk_K : ∀ a, a < 9 → ∀ b, b < 9 → a ≠ b → (F_K a).2.1 ≠ (F_K b).2.1 := by decide +kernel
theorem nw_K : ∀ j, j < 9 → defaultValue (ft_K j) = vp_V [.null, .null, .null, .null, .null, .null, .null, .int 0, .int 0] j := by decide +kernel
set_option maxRecDepth 100000 in
theorem in_T : ∀ w ∈ u_ws R_T F_T 2, w ∈ w0 := by decide +kernel
theorem tk_T : ∀ k, k < 2 → parseFieldDescriptor (F_T k).2.2.1 = some (ft_T k) := by decide +kernel
theorem nk_T : ∀ a, a < 2 → ∀ b, b < 2 → a ≠ b → (F_T a).2.1 ≠ (F_T b).2.1 := by decide +kernel
theorem nw_T : ∀ j, j < 2 → defaultValue (ft_T j) = vp_V [.null, .int 0] j := by decide +kernel
set_option maxRecDepth 100000 in
theorem in_M : ∀ w ∈ u_ws R_M F_M 4, w ∈ w0 := by decide +kernel
theorem tk_M : ∀ k, k < 4 → parseFieldDescriptor (F_M k).2.2.1 = some (ft_M k) := by decide +kernel
theorem nk_M : ∀ a, a < 4 → ∀ b, b < 4 → a ≠ b → (F_M a).2.1 ≠ (F_M b).2.1 := by decide +kernel
theorem nw_M : ∀ j, j < 4 → defaultValue (ft_M j) = vp_V [.null, .null, .null, .int 0] j := by decide +kernel
set_option maxRecDepth 100000 in
theorem in_W : ∀ w ∈ u_ws R_W F_W 2, w ∈ w0 := by decide +kernel
theorem tk_W : ∀ k, k < 2 → parseFieldDescriptor (F_W k).2.2.1 = some (ft_W k) := by decide +kernel
theorem nk_W : ∀ a, a < 2 → ∀ b, b < 2 → a ≠ b → (F_W a).2.1 ≠ (F_W b).2.1 := by decide +kernel
theorem nw_W : ∀ j, j < 2 → defaultValue (ft_W j) = vp_V [.null, .int 0] j := by decide +kernel
set_option maxRecDepth 100000 in
theorem in_P : ∀ w ∈ u_ws R_P F_P 3, w ∈ w0 := by decide +kernel
theorem tk_P : ∀ k, k < 3 → parseFieldDescriptor (F_P k).2.2.1 = some (ft_P k) := by decide +kernel
theorem nk_P : ∀ a, a < 3 → ∀ b, b < 3 → a ≠ b → (F_P a).2.1 ≠ (F_P b).2.1 := by decide +kernel
theorem nw_P : ∀ j, j < 3 → defaultValue (ft_P j) = vp_V [.int 0, .int 0, .int 0] j := by decide +kernel
set_option maxRecDepth 100000 in
theorem in_D : ∀ w ∈ u_ws R_D F_D 3, w ∈ w0 := by decide +kernel
theorem tk_D : ∀ k, k < 3 → parseFieldDescriptor (F_D k).2.2.1 = some (ft_D k) := by decide +kernel
theorem nk_D : ∀ a, a < 3 → ∀ b, b < 3 → a ≠ b → (F_D a).2.1 ≠ (F_D b).2.1 := by decide +kernel
theorem nw_D : ∀ j, j < 3 → defaultValue (ft_D j) = vp_V [.null, .int 0, .int 0] j := by decide +kernel
set_option maxRecDepth 100000 in
theorem in_V : ∀ w ∈ u_ws R_V F_V 3, w ∈ w0 := by decide +kernel
theorem tk_V : ∀ k, k < 3 → parseFieldDescriptor (F_V k).2.2.1 = some (ft_V k) := by decide +kernel
theorem nk_V : ∀ a, a < 3 → ∀ b, b < 3 → a ≠ b → (F_V a).2.1 ≠ (F_V b).2.1 := by decide +kernel
theorem nw_V : ∀ j, j < 3 → defaultValue (ft_V j) = vp_V [.null, .int 0, .int 0] j := by decide +kernel
set_option maxRecDepth 100000 in
theorem in_O : ∀ w ∈ u_ws R_O F_O 27, w ∈ w0 := by decide +kernel
theorem tk_O : ∀ k, k < 27 → parseFieldDescriptor (F_O k).2.2.1 = some (ft_O k) := by decide +kernel
theorem nk_O : ∀ a, a < 27 → ∀ b, b < 27 → a ≠ b → (F_O a).2.1 ≠ (F_O b).2.1 := by decide +kernel
theorem nw_O : ∀ j, j < 27 → defaultValue (ft_O j) = vp_V [.int 0, .int 0, .int 0, .null, .int 0, .int 0, .null, .null, .null, .null, .null, .null, .null, .null, .int 0, .null, .int 0, .null, .int 0, .int 0, .null, .int 0, .null, .int 0, .int 0, .int 0, .int 0] j := by decide +kernel
def k_P_init : List Cond := .code y_P_init prog_5_method_1_code 1 none :: w0
def k_T_init : List Cond := .code y_T_init prog_7_method_1_code 1 none :: w0
def k_W_init : List Cond := .code y_W_init prog_4_method_1_code 1 none :: w0
def k_M_init : List Cond := .code y_M_init prog_3_method_1_code 1 none :: w0
def k_K_init : List Cond := .code y_K_init prog_1_method_1_code 1 none :: w0
def k_K_needPower : List Cond := .code y_K_needPower prog_1_method_21_code 1 none :: w0
def k_K_documentAt : List Cond := .code y_K_documentAt prog_1_method_23_code 2 (some (.object "TextKeeper$Document")) :: w0
def k_K_keptRevision : List Cond := .code y_K_keptRevision prog_1_method_24_code 4 (some (.object "TextKeeper$Revision")) :: w0
def k_K_commit : List Cond := .code y_K_commit prog_1_method_5_code 7 (some .int) :: w0
def k_K_fetch : List Cond := .code y_K_fetch prog_1_method_6_code 5 (some .int) :: w0
def k_K_trim : List Cond := .code y_K_trim prog_1_method_9_code 4 (some .boolean) :: w0
def k_K_dropDocument : List Cond := .code y_K_dropDocument prog_1_method_10_code 2 (some .boolean) :: w0
def k_K_pieceByte : List Cond := .code y_K_pieceByte prog_1_method_13_code 5 (some .int) :: w0
def k_K_damage : List Cond := .code y_K_damage prog_1_method_14_code 6 (some .boolean) :: w0
def k_K_verify : List Cond := .code y_K_verify prog_1_method_15_code 4 (some .int) :: w0
def k_K_common : List Cond := .code y_K_common prog_1_method_16_code 9 (some .int) :: w0
def k_T_byteAt : List Cond := .code y_T_byteAt prog_7_method_2_code 2 (some .int) :: w0
def k_K_out : List Cond := .code y_K_out prog_1_method_7_code 2 (some .int) :: w0
def k_K_steps : List Cond := .code y_K_steps prog_1_method_8_code 1 (some .int) :: w0
def k_K_countFree : List Cond := .code y_K_countFree prog_1_method_26_code 6 (some .int) :: w0
def k_K_freeBlocks : List Cond := .code y_K_freeBlocks prog_1_method_17_code 1 (some .int) :: w0
def k_K_start : List Cond := .code y_K_start prog_1_method_19_code 1 (some .boolean) :: w0
def k_K_isDown : List Cond := .code y_K_isDown prog_1_method_20_code 1 (some .boolean) :: w0
def k_T_hasRoom : List Cond := .code y_T_hasRoom prog_7_method_3_code 2 (some .boolean) :: w0
def k_T_addByte : List Cond := .code y_T_addByte prog_7_method_4_code 2 none :: w0
def k_T_addInt : List Cond := .code y_T_addInt prog_7_method_5_code 3 none :: w0
def k_K_feed : List Cond := .code y_K_feed prog_1_method_2_code 6 (some .boolean) :: w0
def k_T_shorten : List Cond := .code y_T_shorten prog_7_method_6_code 2 (some .boolean) :: w0
def k_K_end : List Cond := .code y_K_end prog_1_method_3_code 2 (some .boolean) :: w0
def k_P_lastsFor : List Cond := .code y_P_lastsFor prog_5_method_4_code 2 (some .boolean) :: w0
def k_K_spendWrites : List Cond := .code y_K_spendWrites prog_1_method_22_code 2 none :: w0
def k_D_init : List Cond := .code y_D_init prog_2_method_1_code 1 none :: w0
def k_K_make : List Cond := .code y_K_make prog_1_method_4_code 2 (some .int) :: w0
def k_P_goAfter : List Cond := .code y_P_goAfter prog_5_method_2_code 2 none :: w0
def k_K_cutAfter : List Cond := .code y_K_cutAfter prog_1_method_18_code 2 (some .boolean) :: w0
def k_O_runs : List Cond := .code y_O_runs prog_9_method_3_code 2 (some .boolean) :: w0
def k_O_thrown : List Cond := .code y_O_thrown prog_9_method_2_code 1 (some .int) :: w0
def k_O_isDocument : List Cond := .code y_O_isDocument prog_9_method_7_code 2 (some .boolean) :: w0
def k_O_isAsked : List Cond := .code y_O_isAsked prog_9_method_8_code 3 (some .boolean) :: w0
def k_O_kept : List Cond := .code y_O_kept prog_9_method_9_code 3 (some .int) :: w0
def k_O_writes : List Cond := .code y_O_writes prog_9_method_4_code 2 (some .boolean) :: w0
def k_O_make : List Cond := .code y_O_make prog_9_method_16_code 1 (some .int) :: w0
def k_O_commit : List Cond := .code y_O_commit prog_9_method_27_code 7 (some .int) :: w0
def k_O_fetch : List Cond := .code y_O_fetch prog_9_method_28_code 4 (some .int) :: w0
def k_O_trim : List Cond := .code y_O_trim prog_9_method_31_code 3 (some .boolean) :: w0
def k_O_dropDocument : List Cond := .code y_O_dropDocument prog_9_method_32_code 2 (some .boolean) :: w0
def k_O_pieceByte : List Cond := .code y_O_pieceByte prog_9_method_35_code 5 (some .int) :: w0
def k_O_damage : List Cond := .code y_O_damage prog_9_method_36_code 6 (some .boolean) :: w0
def k_O_common : List Cond := .code y_O_common prog_9_method_38_code 8 (some .int) :: w0
def k_O_about : List Cond := .code y_O_about prog_9_method_33_code 3 (some .int) :: w0
def k_O_revision : List Cond := .code y_O_revision prog_9_method_34_code 5 (some .int) :: w0
def k_O_out : List Cond := .code y_O_out prog_9_method_29_code 2 (some .int) :: w0
def k_O_steps : List Cond := .code y_O_steps prog_9_method_30_code 1 (some .int) :: w0
def k_O_start : List Cond := .code y_O_start prog_9_method_41_code 2 (some .boolean) :: w0
def k_O_isDown : List Cond := .code y_O_isDown prog_9_method_42_code 1 (some .boolean) :: w0
def k_O_end : List Cond := .code y_O_end prog_9_method_6_code 2 (some .boolean) :: w0
def k_O_cutAfter : List Cond := .code y_O_cutAfter prog_9_method_40_code 2 (some .boolean) :: w0
def k_O_init : List Cond := .code y_O_init prog_9_method_1_code 2 none :: w0
def k_O_feed : List Cond := .code y_O_feed prog_9_method_5_code 8 (some .boolean) :: w0
def k_O_free : List Cond := .code y_O_free prog_9_method_12_code 3 (some .int) :: w0
def k_O_freeBlocks : List Cond := .code y_O_freeBlocks prog_9_method_39_code 1 (some .int) :: w0
def k_O_verify : List Cond := .code y_O_verify prog_9_method_37_code 3 (some .int) :: w0
