/-! the words that all contracts share, the nest mates' words, facts on the tables -/
def w0_0 : List Cond := [.laysFinal "TextKeeper" "TextKeeper" "documents" "[LTextKeeper$Document;",
  .laysFinal "TextKeeper" "TextKeeper" "buffer" "LTextKeeper$Text;",
  .laysFinal "TextKeeper" "TextKeeper" "fetched" "LTextKeeper$Text;",
  .laysFinal "TextKeeper" "TextKeeper" "compared" "LTextKeeper$Text;",
  .laysFinal "TextKeeper" "TextKeeper" "maker" "LTextKeeper$Maker;",
  .laysFinal "TextKeeper" "TextKeeper" "writer" "LTextKeeper$PieceWriter;",
  .laysFinal "TextKeeper" "TextKeeper" "power" "LTextKeeper$Power;",
  .lays "TextKeeper" "TextKeeper" "madeDocuments" "I",
  .lays "TextKeeper" "TextKeeper" "fetchedSteps" "I",
  .laysFinal "TextKeeper$Text" "TextKeeper$Text" "bytes" "[B",
  .lays "TextKeeper$Text" "TextKeeper$Text" "length" "I",
  .lays "TextKeeper$Maker" "TextKeeper$Maker" "base" "LTextKeeper$Text;",
  .lays "TextKeeper$Maker" "TextKeeper$Maker" "text" "LTextKeeper$Text;",
  .lays "TextKeeper$Maker" "TextKeeper$Maker" "piece" "[B",
  .lays "TextKeeper$Maker" "TextKeeper$Maker" "at" "I",
  .laysFinal "TextKeeper$PieceWriter" "TextKeeper$PieceWriter" "row" "[B",
  .lays "TextKeeper$PieceWriter" "TextKeeper$PieceWriter" "length" "I",
  .lays "TextKeeper$Power" "TextKeeper$Power" "down" "Z",
  .lays "TextKeeper$Power" "TextKeeper$Power" "going" "Z",
  .lays "TextKeeper$Power" "TextKeeper$Power" "writesLeft" "I",
  .laysFinal "TextKeeper$Document" "TextKeeper$Document" "revisions" "[LTextKeeper$Revision;",
  .lays "TextKeeper$Document" "TextKeeper$Document" "first" "I",
  .lays "TextKeeper$Document" "TextKeeper$Document" "count" "I",
  .laysFinal "TextKeeper$Revision" "TextKeeper$Revision" "piece" "[B",
  .laysFinal "TextKeeper$Revision" "TextKeeper$Revision" "author" "I",
  .laysFinal "TextKeeper$Revision" "TextKeeper$Revision" "sum" "I",
  .lays "TextKeeperModel" "TextKeeperModel" "thrown" "I",
  .lays "TextKeeperModel" "TextKeeperModel" "down" "Z",
  .lays "TextKeeperModel" "TextKeeperModel" "lasts" "I",
  .laysFinal "TextKeeperModel" "TextKeeperModel" "buffer" "[B",
  .lays "TextKeeperModel" "TextKeeperModel" "size" "I",
  .lays "TextKeeperModel" "TextKeeperModel" "documents" "I",
  .laysFinal "TextKeeperModel" "TextKeeperModel" "gone" "[Z",
  .laysFinal "TextKeeperModel" "TextKeeperModel" "first" "[I",
  .laysFinal "TextKeeperModel" "TextKeeperModel" "many" "[I",
  .laysFinal "TextKeeperModel" "TextKeeperModel" "lengths" "[S",
  .laysFinal "TextKeeperModel" "TextKeeperModel" "authors" "[I",
  .laysFinal "TextKeeperModel" "TextKeeperModel" "sums" "[I",
  .laysFinal "TextKeeperModel" "TextKeeperModel" "row" "[B",
  .lays "TextKeeperModel" "TextKeeperModel" "made" "[B"]
def w0_1 : List Cond := [.lays "TextKeeperModel" "TextKeeperModel" "madeSize" "I",
  .lays "TextKeeperModel" "TextKeeperModel" "base" "[B",
  .lays "TextKeeperModel" "TextKeeperModel" "baseSize" "I",
  .laysFinal "TextKeeperModel" "TextKeeperModel" "text" "[B",
  .lays "TextKeeperModel" "TextKeeperModel" "textSize" "I",
  .lays "TextKeeperModel" "TextKeeperModel" "textSteps" "I",
  .laysFinal "TextKeeperModel" "TextKeeperModel" "other" "[B",
  .lays "TextKeeperModel" "TextKeeperModel" "otherSize" "I",
  .laysFinal "TextKeeperModel" "TextKeeperModel" "piece" "[B",
  .lays "TextKeeperModel" "TextKeeperModel" "pieceSize" "I",
  .lays "TextKeeperModel" "TextKeeperModel" "at" "I",
  .lays "TextKeeperModel" "TextKeeperModel" "end" "I",
  .lays "TextKeeperModel" "TextKeeperModel" "value" "I",
  .methodLink R_P 1 objectInit,
  .instanceMethod objectInit,
  .code objectInit ⟨#[0xb1]⟩ 1 none,
  .fieldLink R_P 7 "TextKeeper$Power" "down" "Z",
  .fieldLink R_P 13 "TextKeeper$Power" "going" "Z",
  .fieldLink R_P 16 "TextKeeper$Power" "writesLeft" "I",
  .methodLink R_T 3 objectInit,
  .arrayClass .byte,
  .fieldLink R_T 9 "TextKeeper$Text" "bytes" "[B",
  .fieldLink R_T 15 "TextKeeper$Text" "length" "I",
  .methodLink R_W 3 objectInit,
  .fieldLink R_W 9 "TextKeeper$PieceWriter" "row" "[B",
  .fieldLink R_W 15 "TextKeeper$PieceWriter" "length" "I",
  .methodLink R_M 3 objectInit,
  .classLink R_M 9 R_T,
  .instantiable R_T 2,
  .initialized R_T,
  .code y_T_init prog_7_method_1_code 1 none,
  .methodLink R_M 11 y_T_init,
  .instanceMethod y_T_init,
  .fieldLink R_M 12 "TextKeeper$Maker" "base" "LTextKeeper$Text;",
  .fieldLink R_M 18 "TextKeeper$Maker" "text" "LTextKeeper$Text;",
  .fieldLink R_M 21 "TextKeeper$Maker" "piece" "[B",
  .fieldLink R_M 25 "TextKeeper$Maker" "at" "I",
  .methodLink R_K 1 objectInit,
  .classLink R_K 9 R_D,
  .fieldLink R_K 11 "TextKeeper" "documents" "[LTextKeeper$Document;"]
def w0_2 : List Cond := [.classLink R_K 15 R_T,
  .methodLink R_K 17 y_T_init,
  .fieldLink R_K 18 "TextKeeper" "buffer" "LTextKeeper$Text;",
  .fieldLink R_K 22 "TextKeeper" "fetched" "LTextKeeper$Text;",
  .fieldLink R_K 25 "TextKeeper" "compared" "LTextKeeper$Text;",
  .classLink R_K 28 R_M,
  .instantiable R_M 4,
  .initialized R_M,
  .code y_M_init prog_3_method_1_code 1 none,
  .methodLink R_K 30 y_M_init,
  .instanceMethod y_M_init,
  .fieldLink R_K 31 "TextKeeper" "maker" "LTextKeeper$Maker;",
  .classLink R_K 35 R_W,
  .instantiable R_W 2,
  .initialized R_W,
  .code y_W_init prog_4_method_1_code 1 none,
  .methodLink R_K 37 y_W_init,
  .instanceMethod y_W_init,
  .fieldLink R_K 38 "TextKeeper" "writer" "LTextKeeper$PieceWriter;",
  .classLink R_K 42 R_P,
  .instantiable R_P 3,
  .initialized R_P,
  .code y_P_init prog_5_method_1_code 1 none,
  .methodLink R_K 44 y_P_init,
  .instanceMethod y_P_init,
  .fieldLink R_K 45 "TextKeeper" "power" "LTextKeeper$Power;",
  .fieldLink R_K 49 "TextKeeper" "madeDocuments" "I",
  .fieldLink R_K 53 "TextKeeper" "fetchedSteps" "I",
  .methodLink R_T 19 y_T_addByte,
  .instanceMethod y_T_addByte,
  .selects R_T y_T_addByte y_T_addByte,
  .code y_T_addByte prog_7_method_4_code 2 none,
  .methodLink R_T 23 ⟨"java/lang/System","arraycopy","(Ljava/lang/Object;ILjava/lang/Object;II)V"⟩,
  .native ⟨"java/lang/System","arraycopy","(Ljava/lang/Object;ILjava/lang/Object;II)V"⟩,
  .static ⟨"java/lang/System","arraycopy","(Ljava/lang/Object;ILjava/lang/Object;II)V"⟩,
  .initialized "java/lang/System",
  .code ⟨"java/lang/Math","min","(II)I"⟩ prog_15_method_69_code 2 (Option.some .int),
  .methodLink R_T 29 ⟨"java/lang/Math","min","(II)I"⟩,
  .static ⟨"java/lang/Math","min","(II)I"⟩,
  .initialized "java/lang/Math"]
def w0_3 : List Cond := [.methodLink R_W 26 y_W_digitsOf,
  .static y_W_digitsOf,
  .code y_W_digitsOf prog_4_method_7_code 3 (some .int),
  .methodLink R_W 55 y_W_writeByte,
  .instanceMethod y_W_writeByte,
  .selects R_W y_W_writeByte y_W_writeByte,
  .code y_W_writeByte prog_4_method_8_code 2 none,
  .methodLink R_W 52 y_T_byteAt,
  .instanceMethod y_T_byteAt,
  .selects R_T y_T_byteAt y_T_byteAt,
  .code y_T_byteAt prog_7_method_2_code 2 (some .int),
  .methodLink R_W 48 y_W_writeNumber,
  .instanceMethod y_W_writeNumber,
  .selects R_W y_W_writeNumber y_W_writeNumber,
  .code y_W_writeNumber prog_4_method_6_code 4 none,
  .methodLink R_W 44 y_T_runWith,
  .instanceMethod y_T_runWith,
  .selects R_T y_T_runWith y_T_runWith,
  .code y_T_runWith prog_7_method_9_code 6 (some .int),
  .methodLink R_W 40 y_W_placeOfLongest,
  .static y_W_placeOfLongest,
  .code y_W_placeOfLongest prog_4_method_4_code 7 (some .int),
  .methodLink R_W 30 y_W_writeInsert,
  .instanceMethod y_W_writeInsert,
  .selects R_W y_W_writeInsert y_W_writeInsert,
  .code y_W_writeInsert prog_4_method_5_code 5 none,
  .methodLink R_A 304 ⟨"java/lang/Math","min","(II)I"⟩,
  .methodLink R_A 150 ⟨"java/lang/System","arraycopy","(Ljava/lang/Object;ILjava/lang/Object;II)V"⟩,
  .methodLink R_W 19 y_W_writeDifferences,
  .instanceMethod y_W_writeDifferences,
  .selects R_W y_W_writeDifferences y_W_writeDifferences,
  .code y_W_writeDifferences prog_4_method_3_code 7 none,
  .methodLink R_W 34 y_A_copyOf,
  .static y_A_copyOf,
  .initialized R_A,
  .code y_A_copyOf prog_19_method_121_code 3 (some (.array .byte)),
  .fieldLink R_O 59 "TextKeeperModel" "piece" "[B",
  .fieldLink R_O 125 "TextKeeperModel" "pieceSize" "I",
  .methodLink R_O 128 y_O_put,
  .instanceMethod y_O_put]
def w0_4 : List Cond := [.selects R_O y_O_put y_O_put,
  .initialized R_O,
  .code y_O_put prog_9_method_21_code 2 none,
  .fieldLink R_O 69 "TextKeeperModel" "size" "I",
  .fieldLink R_O 113 "TextKeeperModel" "madeSize" "I",
  .fieldLink R_O 13 "TextKeeperModel" "buffer" "[B",
  .fieldLink R_O 41 "TextKeeperModel" "made" "[B",
  .methodLink R_O 131 y_O_putNumber,
  .instanceMethod y_O_putNumber,
  .selects R_O y_O_putNumber y_O_putNumber,
  .code y_O_putNumber prog_9_method_22_code 3 none,
  .methodLink R_O 134 y_O_run,
  .instanceMethod y_O_run,
  .selects R_O y_O_run y_O_run,
  .code y_O_run prog_9_method_24_code 4 (some .int),
  .methodLink R_O 138 y_O_inserts,
  .instanceMethod y_O_inserts,
  .selects R_O y_O_inserts y_O_inserts,
  .code y_O_inserts prog_9_method_23_code 4 none,
  .fieldLink R_O 100 "TextKeeperModel" "value" "I",
  .fieldLink R_O 103 "TextKeeperModel" "at" "I",
  .fieldLink R_O 106 "TextKeeperModel" "end" "I",
  .fieldLink R_O 38 "TextKeeperModel" "row" "[B",
  .methodLink R_M 71 y_T_addByte,
  .methodLink R_M 78 y_T_byteAt,
  .methodLink R_M 58 y_M_readNumber,
  .instanceMethod y_M_readNumber,
  .selects R_M y_M_readNumber y_M_readNumber,
  .code y_M_readNumber prog_3_method_8_code 4 (some .int),
  .methodLink R_M 62 y_T_hasRoom,
  .instanceMethod y_T_hasRoom,
  .selects R_T y_T_hasRoom y_T_hasRoom,
  .code y_T_hasRoom prog_7_method_3_code 2 (some .boolean),
  .methodLink R_M 68 y_M_copy,
  .instanceMethod y_M_copy,
  .selects R_M y_M_copy y_M_copy,
  .code y_M_copy prog_3_method_7_code 4 (some .boolean),
  .methodLink R_M 65 y_M_insert,
  .instanceMethod y_M_insert,
  .selects R_M y_M_insert y_M_insert]
def w0_5 : List Cond := [.code y_M_insert prog_3_method_6_code 3 (some .boolean),
  .fieldLink R_O 44 "TextKeeperModel" "base" "[B",
  .methodLink R_O 109 y_O_number,
  .instanceMethod y_O_number,
  .selects R_O y_O_number y_O_number,
  .code y_O_number prog_9_method_17_code 3 (some .boolean),
  .fieldLink R_O 116 "TextKeeperModel" "baseSize" "I",
  .fieldLink R_O 28 "TextKeeperModel" "lengths" "[S",
  .methodLink R_O 119 y_O_command,
  .instanceMethod y_O_command,
  .selects R_O y_O_command y_O_command,
  .code y_O_command prog_9_method_18_code 5 (some .boolean),
  .methodLink R_M 54 y_M_obeyCommand,
  .instanceMethod y_M_obeyCommand,
  .selects R_M y_M_obeyCommand y_M_obeyCommand,
  .code y_M_obeyCommand prog_3_method_5_code 3 (some .boolean)]
def w0 : List Cond := w0_0 ++ (w0_1 ++ (w0_2 ++ (w0_3 ++ (w0_4 ++ (w0_5)))))
def nw0 : List Cond := [.fieldLinkNest R_W 23 "TextKeeper$Text" "length" "I" "TextKeeper",
  .fieldLinkNest R_M 75 "TextKeeper$Text" "length" "I" "TextKeeper"]
def ao0 : List String := ["TextKeeper$Document"]
def nw_kind : Cond → Bool
  | .fieldLinkNest .. => true
  | .methodLinkNest .. => true
  | .declares .. => true
  | .castable .. => true
  | _ => false
theorem nw0_kind : ∀ w ∈ nw0, nw_kind w = true := by decide +kernel
theorem nw0_tab : ∀ w ∈ nw0, w.onTables = true := by decide +kernel
theorem gd_places {big : List Cond} (ws : List Cond) (ps : List Nat) (hp : ws = ps.filterMap (fun i => big[i]?)) (h : ws.all goodWord = true) : GoodIn big ws := by
  intro w hw
  have h1 := List.all_eq_true.mp h w hw
  rw [hp] at hw
  obtain ⟨i, -, hi⟩ := List.mem_filterMap.mp hw
  exact ⟨List.mem_of_getElem? hi, good_of_word h1⟩
theorem gd_both {big a b : List Cond} (ha : GoodIn big a) (hb : GoodIn big b) : GoodIn big (a ++ b) := fun w h => (List.mem_append.mp h).elim (ha w) (hb w)
set_option maxRecDepth 100000 in
set_option maxHeartbeats 4000000 in
theorem w0_ok_0 : GoodIn lw_tbl w0_0 := gd_places _ [141, 143, 145, 147, 149, 151, 153, 155, 157, 75, 77, 93, 95, 97, 99, 110, 112, 125, 127, 129, 297, 299, 301, 439, 441, 443, 654, 656, 658, 660, 662, 664, 666, 668, 670, 672, 674, 676, 678, 680] rfl (by decide +kernel)
set_option maxRecDepth 100000 in
set_option maxHeartbeats 4000000 in
theorem w0_ok_1 : GoodIn lw_tbl w0_1 := gd_places _ [682, 684, 686, 688, 690, 692, 694, 696, 698, 700, 702, 704, 706, 120, 60, 61, 121, 123, 124, 69, 80, 70, 71, 107, 108, 109, 86, 87, 65, 37, 68, 88, 67, 89, 90, 91, 92, 59, 62, 132] rfl (by decide +kernel)
set_option maxRecDepth 100000 in
set_option maxHeartbeats 4000000 in
theorem w0_ok_2 : GoodIn lw_tbl w0_2 := gd_places _ [64, 66, 133, 134, 135, 81, 82, 38, 85, 83, 84, 136, 102, 103, 39, 106, 104, 105, 137, 115, 116, 40, 119, 117, 118, 138, 139, 140, 255, 256, 257, 258, 470, 408, 407, 49, 378, 376, 377, 47] rfl (by decide +kernel)
set_option maxRecDepth 100000 in
set_option maxHeartbeats 4000000 in
theorem w0_ok_3 : GoodIn lw_tbl w0_3 := gd_places _ [387, 388, 389, 390, 392, 12, 393, 394, 358, 359, 360, 383, 385, 11, 386, 372, 373, 374, 375, 369, 370, 371, 379, 381, 10, 382, 405, 406, 365, 367, 9, 368, 395, 396, 48, 397, 649, 650, 776, 778] rfl (by decide +kernel)
set_option maxRecDepth 100000 in
set_option maxHeartbeats 4000000 in
theorem w0_ok_4 : GoodIn lw_tbl w0_4 := gd_places _ [28, 41, 779, 631, 641, 630, 640, 772, 774, 27, 775, 764, 766, 25, 767, 768, 770, 26, 771, 653, 651, 652, 639, 352, 357, 343, 345, 6, 346, 347, 248, 249, 250, 353, 355, 8, 356, 348, 350, 7] rfl (by decide +kernel)
set_option maxRecDepth 100000 in
set_option maxHeartbeats 4000000 in
theorem w0_ok_5 : GoodIn lw_tbl w0_5 := gd_places _ [351, 642, 756, 758, 23, 759, 643, 636, 752, 754, 22, 755, 339, 341, 5, 342] rfl (by decide +kernel)
theorem w0_ok : GoodIn lw_tbl w0 := gd_both w0_ok_0 (gd_both w0_ok_1 (gd_both w0_ok_2 (gd_both w0_ok_3 (gd_both w0_ok_4 (w0_ok_5)))))
theorem w0_good (w : Cond) (h : w ∈ w0) : (w.onTables && w.keeps) = true ∨ ∃ ty, w = .arrayClass ty := (w0_ok w h).2
set_option maxRecDepth 100000 in
theorem in_K : ∀ w ∈ u_ws R_K F_K 9, w ∈ w0 := by decide +kernel
theorem tk_K : ∀ k, k < 9 → parseFieldDescriptor (F_K k).2.2.1 = some (ft_K k) := by decide +kernel
theorem nk_K : ∀ a, a < 9 → ∀ b, b < 9 → a ≠ b → (F_K a).2.1 ≠ (F_K b).2.1 := by decide +kernel
theorem nw_K : ∀ j, j < 9 → defaultValue (ft_K j) = vp_V [.null, .null, .null, .null, .null, .null, .null, .int 0, .int 0] j := by decide +kernel
set_option maxRecDepth 100000 in
theorem in_T : ∀ w ∈ u_ws R_T F_T 2, w ∈ w0 := by decide +kernel
theorem tk_T : ∀ k, k < 2 → parseFieldDescriptor (F_T k).2.2.1 = some (ft_T k) := by decide +kernel
theorem nk_T : ∀ a, a < 2 → ∀ b, b < 2 → a ≠ b → (F_T a).2.1 ≠ (F_T b).2.1 := by decide +kernel
theorem nw_T : ∀ j, j < 2 → defaultValue (ft_T j) = vp_V [.null, .int 0] j := by decide +kernel
set_option maxRecDepth 100000 in
theorem in_M : ∀ w ∈ u_ws R_M F_M 4, w ∈ w0 := by decide +kernel
theorem tk_M : ∀ k, k < 4 → parseFieldDescriptor (F_M k).2.2.1 = some (ft_M k) := by decide +kernel
theorem nk_M : ∀ a, a < 4 → ∀ b, b < 4 → a ≠ b → (F_M a).2.1 ≠ (F_M b).2.1 := by decide +kernel
theorem nw_M : ∀ j, j < 4 → defaultValue (ft_M j) = vp_V [.null, .null, .null, .int 0] j := by decide +kernel
set_option maxRecDepth 100000 in
theorem in_W : ∀ w ∈ u_ws R_W F_W 2, w ∈ w0 := by decide +kernel
theorem tk_W : ∀ k, k < 2 → parseFieldDescriptor (F_W k).2.2.1 = some (ft_W k) := by decide +kernel
theorem nk_W : ∀ a, a < 2 → ∀ b, b < 2 → a ≠ b → (F_W a).2.1 ≠ (F_W b).2.1 := by decide +kernel
theorem nw_W : ∀ j, j < 2 → defaultValue (ft_W j) = vp_V [.null, .int 0] j := by decide +kernel
set_option maxRecDepth 100000 in
theorem in_P : ∀ w ∈ u_ws R_P F_P 3, w ∈ w0 := by decide +kernel
theorem tk_P : ∀ k, k < 3 → parseFieldDescriptor (F_P k).2.2.1 = some (ft_P k) := by decide +kernel
theorem nk_P : ∀ a, a < 3 → ∀ b, b < 3 → a ≠ b → (F_P a).2.1 ≠ (F_P b).2.1 := by decide +kernel
theorem nw_P : ∀ j, j < 3 → defaultValue (ft_P j) = vp_V [.int 0, .int 0, .int 0] j := by decide +kernel
set_option maxRecDepth 100000 in
theorem in_D : ∀ w ∈ u_ws R_D F_D 3, w ∈ w0 := by decide +kernel
theorem tk_D : ∀ k, k < 3 → parseFieldDescriptor (F_D k).2.2.1 = some (ft_D k) := by decide +kernel
theorem nk_D : ∀ a, a < 3 → ∀ b, b < 3 → a ≠ b → (F_D a).2.1 ≠ (F_D b).2.1 := by decide +kernel
theorem nw_D : ∀ j, j < 3 → defaultValue (ft_D j) = vp_V [.null, .int 0, .int 0] j := by decide +kernel
set_option maxRecDepth 100000 in
theorem in_V : ∀ w ∈ u_ws R_V F_V 3, w ∈ w0 := by decide +kernel
theorem tk_V : ∀ k, k < 3 → parseFieldDescriptor (F_V k).2.2.1 = some (ft_V k) := by decide +kernel
theorem nk_V : ∀ a, a < 3 → ∀ b, b < 3 → a ≠ b → (F_V a).2.1 ≠ (F_V b).2.1 := by decide +kernel
theorem nw_V : ∀ j, j < 3 → defaultValue (ft_V j) = vp_V [.null, .int 0, .int 0] j := by decide +kernel
set_option maxRecDepth 100000 in
theorem in_O : ∀ w ∈ u_ws R_O F_O 27, w ∈ w0 := by decide +kernel
theorem tk_O : ∀ k, k < 27 → parseFieldDescriptor (F_O k).2.2.1 = some (ft_O k) := by decide +kernel
theorem nk_O : ∀ a, a < 27 → ∀ b, b < 27 → a ≠ b → (F_O a).2.1 ≠ (F_O b).2.1 := by decide +kernel
theorem nw_O : ∀ j, j < 27 → defaultValue (ft_O j) = vp_V [.int 0, .int 0, .int 0, .null, .int 0, .int 0, .null, .null, .null, .null, .null, .null, .null, .null, .int 0, .null, .int 0, .null, .int 0, .int 0, .null, .int 0, .null, .int 0, .int 0, .int 0, .int 0] j := by decide +kernel
def k_P_init : List Cond := .code y_P_init prog_5_method_1_code 1 none :: w0
def k_T_init : List Cond := .code y_T_init prog_7_method_1_code 1 none :: w0
def k_W_init : List Cond := .code y_W_init prog_4_method_1_code 1 none :: w0
def k_M_init : List Cond := .code y_M_init prog_3_method_1_code 1 none :: w0
def k_K_init : List Cond := .code y_K_init prog_1_method_1_code 1 none :: w0
def k_T_hasRoom : List Cond := .code y_T_hasRoom prog_7_method_3_code 2 (some .boolean) :: w0
def k_T_byteAt : List Cond := .code y_T_byteAt prog_7_method_2_code 2 (some .int) :: w0
def k_T_addByte : List Cond := .code y_T_addByte prog_7_method_4_code 2 none :: w0
def k_T_addInt : List Cond := .code y_T_addInt prog_7_method_5_code 3 none :: w0
def k_T_shorten : List Cond := .code y_T_shorten prog_7_method_6_code 2 (some .boolean) :: w0
def k_T_sum : List Cond := .code y_T_sum prog_7_method_8_code 3 (some .int) :: w0
def k_T_become : List Cond := .code y_T_become prog_7_method_7_code 2 none :: w0
def k_T_runWith : List Cond := .code y_T_runWith prog_7_method_9_code 6 (some .int) :: w0
def k_W_writeByte : List Cond := .code y_W_writeByte prog_4_method_8_code 2 none :: w0
def k_W_digitsOf : List Cond := .code y_W_digitsOf prog_4_method_7_code 3 (some .int) :: w0
def k_W_writeNumber : List Cond := .code y_W_writeNumber prog_4_method_6_code 4 none :: w0
def k_W_writeInsert : List Cond := .code y_W_writeInsert prog_4_method_5_code 5 none :: w0
def k_W_placeOfLongest : List Cond := .code y_W_placeOfLongest prog_4_method_4_code 7 (some .int) :: w0
def k_W_writeDifferences : List Cond := .code y_W_writeDifferences prog_4_method_3_code 7 none :: w0
def k_A_copyOf : List Cond := .code y_A_copyOf prog_19_method_121_code 3 (some (.array .byte)) :: w0
def k_W_pieceOf : List Cond := .code y_W_pieceOf prog_4_method_2_code 3 (some (.array .byte)) :: w0
def k_O_put : List Cond := .code y_O_put prog_9_method_21_code 2 none :: w0
def k_O_putNumber : List Cond := .code y_O_putNumber prog_9_method_22_code 3 none :: w0
def k_O_run : List Cond := .code y_O_run prog_9_method_24_code 4 (some .int) :: w0
def k_O_inserts : List Cond := .code y_O_inserts prog_9_method_23_code 4 none :: w0
def k_O_pieces : List Cond := .code y_O_pieces prog_9_method_25_code 7 none :: w0
def k_M_readNumber : List Cond := .code y_M_readNumber prog_3_method_8_code 4 (some .int) :: w0
def k_O_number : List Cond := .code y_O_number prog_9_method_17_code 3 (some .boolean) :: w0
def k_M_insert : List Cond := .code y_M_insert prog_3_method_6_code 3 (some .boolean) :: w0
def k_M_copy : List Cond := .code y_M_copy prog_3_method_7_code 4 (some .boolean) :: w0
def k_M_obeyCommand : List Cond := .code y_M_obeyCommand prog_3_method_5_code 3 (some .boolean) :: w0
def k_O_command : List Cond := .code y_O_command prog_9_method_18_code 5 (some .boolean) :: w0
def k_O_begins : List Cond := .code y_O_begins prog_9_method_10_code 4 (some .int) :: w0
def k_O_sum : List Cond := .code y_O_sum prog_9_method_26_code 5 (some .int) :: w0
