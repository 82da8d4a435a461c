section
/-! the words that all contracts share, the nest mates' words, facts on the tables -/
def w0_0 : List Cond := [.laysFinal "TextKeeper" "TextKeeper" "documents" "[LTextKeeper$Document;",
  .laysFinal "TextKeeper" "TextKeeper" "buffer" "LTextKeeper$Text;",
  .laysFinal "TextKeeper" "TextKeeper" "fetched" "LTextKeeper$Text;",
  .laysFinal "TextKeeper" "TextKeeper" "compared" "LTextKeeper$Text;",
  .laysFinal "TextKeeper" "TextKeeper" "maker" "LTextKeeper$Maker;",
  .laysFinal "TextKeeper" "TextKeeper" "writer" "LTextKeeper$PieceWriter;",
  .laysFinal "TextKeeper" "TextKeeper" "power" "LTextKeeper$Power;",
  .lays "TextKeeper" "TextKeeper" "madeDocuments" "I",
  .lays "TextKeeper" "TextKeeper" "fetchedSteps" "I",
  .laysFinal "TextKeeper$Text" "TextKeeper$Text" "bytes" "[B",
  .lays "TextKeeper$Text" "TextKeeper$Text" "length" "I",
  .lays "TextKeeper$Maker" "TextKeeper$Maker" "base" "LTextKeeper$Text;",
  .lays "TextKeeper$Maker" "TextKeeper$Maker" "text" "LTextKeeper$Text;",
  .lays "TextKeeper$Maker" "TextKeeper$Maker" "piece" "[B",
  .lays "TextKeeper$Maker" "TextKeeper$Maker" "at" "I",
  .laysFinal "TextKeeper$PieceWriter" "TextKeeper$PieceWriter" "row" "[B",
  .lays "TextKeeper$PieceWriter" "TextKeeper$PieceWriter" "length" "I",
  .lays "TextKeeper$Power" "TextKeeper$Power" "down" "Z",
  .lays "TextKeeper$Power" "TextKeeper$Power" "going" "Z",
  .lays "TextKeeper$Power" "TextKeeper$Power" "writesLeft" "I",
  .laysFinal "TextKeeper$Document" "TextKeeper$Document" "revisions" "[LTextKeeper$Revision;",
  .lays "TextKeeper$Document" "TextKeeper$Document" "first" "I",
  .lays "TextKeeper$Document" "TextKeeper$Document" "count" "I",
  .laysFinal "TextKeeper$Revision" "TextKeeper$Revision" "piece" "[B",
  .laysFinal "TextKeeper$Revision" "TextKeeper$Revision" "author" "I",
  .laysFinal "TextKeeper$Revision" "TextKeeper$Revision" "sum" "I",
  .lays "TextKeeperModel" "TextKeeperModel" "thrown" "I",
  .lays "TextKeeperModel" "TextKeeperModel" "down" "Z",
  .lays "TextKeeperModel" "TextKeeperModel" "lasts" "I",
  .laysFinal "TextKeeperModel" "TextKeeperModel" "buffer" "[B",
  .lays "TextKeeperModel" "TextKeeperModel" "size" "I",
  .lays "TextKeeperModel" "TextKeeperModel" "documents" "I",
  .laysFinal "TextKeeperModel" "TextKeeperModel" "gone" "[Z",
  .laysFinal "TextKeeperModel" "TextKeeperModel" "first" "[I",
  .laysFinal "TextKeeperModel" "TextKeeperModel" "many" "[I",
  .laysFinal "TextKeeperModel" "TextKeeperModel" "lengths" "[S",
  .laysFinal "TextKeeperModel" "TextKeeperModel" "authors" "[I",
  .laysFinal "TextKeeperModel" "TextKeeperModel" "sums" "[I",
  .laysFinal "TextKeeperModel" "TextKeeperModel" "row" "[B",
  .lays "TextKeeperModel" "TextKeeperModel" "made" "[B"]
def w0_1 : List Cond := [.lays "TextKeeperModel" "TextKeeperModel" "madeSize" "I",
  .lays "TextKeeperModel" "TextKeeperModel" "base" "[B",
  .lays "TextKeeperModel" "TextKeeperModel" "baseSize" "I",
  .laysFinal "TextKeeperModel" "TextKeeperModel" "text" "[B",
  .lays "TextKeeperModel" "TextKeeperModel" "textSize" "I",
  .lays "TextKeeperModel" "TextKeeperModel" "textSteps" "I",
  .laysFinal "TextKeeperModel" "TextKeeperModel" "other" "[B",
  .lays "TextKeeperModel" "TextKeeperModel" "otherSize" "I",
  .laysFinal "TextKeeperModel" "TextKeeperModel" "piece" "[B",
  .lays "TextKeeperModel" "TextKeeperModel" "pieceSize" "I",
  .lays "TextKeeperModel" "TextKeeperModel" "at" "I",
  .lays "TextKeeperModel" "TextKeeperModel" "end" "I",
  .lays "TextKeeperModel" "TextKeeperModel" "value" "I",
  .methodLink R_P 1 objectInit,
  .instanceMethod objectInit,
  .code objectInit ⟨#[0xb1]⟩ 1 none,
  .fieldLink R_P 7 "TextKeeper$Power" "down" "Z",
  .fieldLink R_P 13 "TextKeeper$Power" "going" "Z",
  .fieldLink R_P 16 "TextKeeper$Power" "writesLeft" "I",
  .methodLink R_T 3 objectInit,
  .arrayClass .byte,
  .fieldLink R_T 9 "TextKeeper$Text" "bytes" "[B",
  .fieldLink R_T 15 "TextKeeper$Text" "length" "I",
  .methodLink R_W 3 objectInit,
  .fieldLink R_W 9 "TextKeeper$PieceWriter" "row" "[B",
  .fieldLink R_W 15 "TextKeeper$PieceWriter" "length" "I",
  .methodLink R_M 3 objectInit,
  .classLink R_M 9 R_T,
  .instantiable R_T 2,
  .initialized R_T,
  .code y_T_init prog_7_method_1_code 1 none,
  .methodLink R_M 11 y_T_init,
  .instanceMethod y_T_init,
  .fieldLink R_M 12 "TextKeeper$Maker" "base" "LTextKeeper$Text;",
  .fieldLink R_M 18 "TextKeeper$Maker" "text" "LTextKeeper$Text;",
  .fieldLink R_M 21 "TextKeeper$Maker" "piece" "[B",
  .fieldLink R_M 25 "TextKeeper$Maker" "at" "I",
  .methodLink R_K 1 objectInit,
  .classLink R_K 9 R_D,
  .fieldLink R_K 11 "TextKeeper" "documents" "[LTextKeeper$Document;"]
def w0_2 : List Cond := [.classLink R_K 15 R_T,
  .methodLink R_K 17 y_T_init,
  .fieldLink R_K 18 "TextKeeper" "buffer" "LTextKeeper$Text;",
  .fieldLink R_K 22 "TextKeeper" "fetched" "LTextKeeper$Text;",
  .fieldLink R_K 25 "TextKeeper" "compared" "LTextKeeper$Text;",
  .classLink R_K 28 R_M,
  .instantiable R_M 4,
  .initialized R_M,
  .code y_M_init prog_3_method_1_code 1 none,
  .methodLink R_K 30 y_M_init,
  .instanceMethod y_M_init,
  .fieldLink R_K 31 "TextKeeper" "maker" "LTextKeeper$Maker;",
  .classLink R_K 35 R_W,
  .instantiable R_W 2,
  .initialized R_W,
  .code y_W_init prog_4_method_1_code 1 none,
  .methodLink R_K 37 y_W_init,
  .instanceMethod y_W_init,
  .fieldLink R_K 38 "TextKeeper" "writer" "LTextKeeper$PieceWriter;",
  .classLink R_K 42 R_P,
  .instantiable R_P 3,
  .initialized R_P,
  .code y_P_init prog_5_method_1_code 1 none,
  .methodLink R_K 44 y_P_init,
  .instanceMethod y_P_init,
  .fieldLink R_K 45 "TextKeeper" "power" "LTextKeeper$Power;",
  .fieldLink R_K 49 "TextKeeper" "madeDocuments" "I",
  .fieldLink R_K 53 "TextKeeper" "fetchedSteps" "I",
  .methodLink R_T 19 y_T_addByte,
  .instanceMethod y_T_addByte,
  .selects R_T y_T_addByte y_T_addByte,
  .code y_T_addByte prog_7_method_4_code 2 none,
  .methodLink R_T 23 ⟨"java/lang/System","arraycopy","(Ljava/lang/Object;ILjava/lang/Object;II)V"⟩,
  .native ⟨"java/lang/System","arraycopy","(Ljava/lang/Object;ILjava/lang/Object;II)V"⟩,
  .static ⟨"java/lang/System","arraycopy","(Ljava/lang/Object;ILjava/lang/Object;II)V"⟩,
  .initialized "java/lang/System",
  .code ⟨"java/lang/Math","min","(II)I"⟩ prog_15_method_69_code 2 (Option.some .int),
  .methodLink R_T 29 ⟨"java/lang/Math","min","(II)I"⟩,
  .static ⟨"java/lang/Math","min","(II)I"⟩,
  .initialized "java/lang/Math"]
def w0_3 : List Cond := [.methodLink R_W 26 y_W_digitsOf,
  .static y_W_digitsOf,
  .code y_W_digitsOf prog_4_method_7_code 3 (some .int),
  .methodLink R_W 55 y_W_writeByte,
  .instanceMethod y_W_writeByte,
  .selects R_W y_W_writeByte y_W_writeByte,
  .code y_W_writeByte prog_4_method_8_code 2 none,
  .methodLink R_W 52 y_T_byteAt,
  .instanceMethod y_T_byteAt,
  .selects R_T y_T_byteAt y_T_byteAt,
  .code y_T_byteAt prog_7_method_2_code 2 (some .int),
  .methodLink R_W 48 y_W_writeNumber,
  .instanceMethod y_W_writeNumber,
  .selects R_W y_W_writeNumber y_W_writeNumber,
  .code y_W_writeNumber prog_4_method_6_code 4 none,
  .methodLink R_W 44 y_T_runWith,
  .instanceMethod y_T_runWith,
  .selects R_T y_T_runWith y_T_runWith,
  .code y_T_runWith prog_7_method_9_code 6 (some .int),
  .methodLink R_W 40 y_W_placeOfLongest,
  .static y_W_placeOfLongest,
  .code y_W_placeOfLongest prog_4_method_4_code 7 (some .int),
  .methodLink R_W 30 y_W_writeInsert,
  .instanceMethod y_W_writeInsert,
  .selects R_W y_W_writeInsert y_W_writeInsert,
  .code y_W_writeInsert prog_4_method_5_code 5 none,
  .methodLink R_A 304 ⟨"java/lang/Math","min","(II)I"⟩,
  .methodLink R_A 150 ⟨"java/lang/System","arraycopy","(Ljava/lang/Object;ILjava/lang/Object;II)V"⟩,
  .methodLink R_W 19 y_W_writeDifferences,
  .instanceMethod y_W_writeDifferences,
  .selects R_W y_W_writeDifferences y_W_writeDifferences,
  .code y_W_writeDifferences prog_4_method_3_code 7 none,
  .methodLink R_W 34 y_A_copyOf,
  .static y_A_copyOf,
  .initialized R_A,
  .code y_A_copyOf prog_19_method_121_code 3 (some (.array .byte)),
  .fieldLink R_O 59 "TextKeeperModel" "piece" "[B",
  .fieldLink R_O 125 "TextKeeperModel" "pieceSize" "I",
  .methodLink R_O 128 y_O_put,
  .instanceMethod y_O_put]
def w0_4 : List Cond := [.selects R_O y_O_put y_O_put,
  .initialized R_O,
  .code y_O_put prog_9_method_21_code 2 none,
  .fieldLink R_O 69 "TextKeeperModel" "size" "I",
  .fieldLink R_O 113 "TextKeeperModel" "madeSize" "I",
  .fieldLink R_O 13 "TextKeeperModel" "buffer" "[B",
  .fieldLink R_O 41 "TextKeeperModel" "made" "[B",
  .methodLink R_O 131 y_O_putNumber,
  .instanceMethod y_O_putNumber,
  .selects R_O y_O_putNumber y_O_putNumber,
  .code y_O_putNumber prog_9_method_22_code 3 none,
  .methodLink R_O 134 y_O_run,
  .instanceMethod y_O_run,
  .selects R_O y_O_run y_O_run,
  .code y_O_run prog_9_method_24_code 4 (some .int),
  .methodLink R_O 138 y_O_inserts,
  .instanceMethod y_O_inserts,
  .selects R_O y_O_inserts y_O_inserts,
  .code y_O_inserts prog_9_method_23_code 4 none,
  .fieldLink R_O 100 "TextKeeperModel" "value" "I",
  .fieldLink R_O 103 "TextKeeperModel" "at" "I",
  .fieldLink R_O 106 "TextKeeperModel" "end" "I",
  .fieldLink R_O 38 "TextKeeperModel" "row" "[B",
  .methodLink R_M 71 y_T_addByte,
  .methodLink R_M 78 y_T_byteAt,
  .methodLink R_M 58 y_M_readNumber,
  .instanceMethod y_M_readNumber,
  .selects R_M y_M_readNumber y_M_readNumber,
  .code y_M_readNumber prog_3_method_8_code 4 (some .int),
  .methodLink R_M 62 y_T_hasRoom,
  .instanceMethod y_T_hasRoom,
  .selects R_T y_T_hasRoom y_T_hasRoom,
  .code y_T_hasRoom prog_7_method_3_code 2 (some .boolean),
  .methodLink R_M 68 y_M_copy,
  .instanceMethod y_M_copy,
  .selects R_M y_M_copy y_M_copy,
  .code y_M_copy prog_3_method_7_code 4 (some .boolean),
  .methodLink R_M 65 y_M_insert,
  .instanceMethod y_M_insert,
  .selects R_M y_M_insert y_M_insert]
def w0_5 : List Cond := [.code y_M_insert prog_3_method_6_code 3 (some .boolean),
  .fieldLink R_O 44 "TextKeeperModel" "base" "[B",
  .methodLink R_O 109 y_O_number,
  .instanceMethod y_O_number,
  .selects R_O y_O_number y_O_number,
  .code y_O_number prog_9_method_17_code 3 (some .boolean),
  .fieldLink R_O 116 "TextKeeperModel" "baseSize" "I",
  .fieldLink R_O 28 "TextKeeperModel" "lengths" "[S",
  .methodLink R_O 119 y_O_command,
  .instanceMethod y_O_command,
  .selects R_O y_O_command y_O_command,
  .code y_O_command prog_9_method_18_code 5 (some .boolean),
  .methodLink R_M 54 y_M_obeyCommand,
  .instanceMethod y_M_obeyCommand,
  .selects R_M y_M_obeyCommand y_M_obeyCommand,
  .code y_M_obeyCommand prog_3_method_5_code 3 (some .boolean),
  .methodLink R_V 1 objectInit,
  .fieldLink R_V 7 "TextKeeper$Revision" "piece" "[B",
  .fieldLink R_V 13 "TextKeeper$Revision" "author" "I",
  .fieldLink R_V 17 "TextKeeper$Revision" "sum" "I",
  .methodLink R_D 3 objectInit,
  .classLink R_D 9 R_V,
  .fieldLink R_D 11 "TextKeeper$Document" "revisions" "[LTextKeeper$Revision;",
  .fieldLink R_D 17 "TextKeeper$Document" "first" "I",
  .fieldLink R_D 21 "TextKeeper$Document" "count" "I",
  .code y_K_baseOf prog_1_method_28_code 1 (some .int),
  .initialized R_K,
  .static y_K_baseOf,
  .code y_K_blocksFor prog_1_method_27_code 1 (some .int),
  .static y_K_blocksFor,
  .methodLink R_M 45 y_D_keptAt,
  .instanceMethod y_D_keptAt,
  .selects R_D y_D_keptAt y_D_keptAt,
  .initialized R_D,
  .code y_D_keptAt prog_2_method_5_code 2 (some (.object "TextKeeper$Revision")),
  .methodLink R_M 29 y_T_shorten,
  .instanceMethod y_T_shorten,
  .selects R_T y_T_shorten y_T_shorten,
  .code y_T_shorten prog_7_method_6_code 2 (some .boolean),
  .methodLink R_M 41 y_M_makeNext]
def w0_6 : List Cond := [.instanceMethod y_M_makeNext,
  .selects R_M y_M_makeNext y_M_makeNext,
  .code y_M_makeNext prog_3_method_4_code 7 (some .boolean),
  .methodLink R_M 37 y_M_makeAgain,
  .instanceMethod y_M_makeAgain,
  .selects R_M y_M_makeAgain y_M_makeAgain,
  .code y_M_makeAgain prog_3_method_3_code 6 (some (.object "TextKeeper$Text")),
  .fieldLink R_O 65 "TextKeeperModel" "down" "Z",
  .fieldLink R_O 62 "TextKeeperModel" "thrown" "I",
  .fieldLink R_O 9 "TextKeeperModel" "lasts" "I",
  .fieldLink R_O 76 "TextKeeperModel" "documents" "I",
  .fieldLink R_O 17 "TextKeeperModel" "gone" "[Z",
  .methodLink R_O 79 y_O_isDocument,
  .instanceMethod y_O_isDocument,
  .selects R_O y_O_isDocument y_O_isDocument,
  .code y_O_isDocument prog_9_method_7_code 2 (some .boolean),
  .fieldLink R_O 21 "TextKeeperModel" "first" "[I",
  .fieldLink R_O 25 "TextKeeperModel" "many" "[I",
  .methodLink R_O 82 y_O_blocks,
  .static y_O_blocks,
  .code y_O_blocks prog_9_method_11_code 1 (some .int),
  .methodLink R_O 86 y_O_begins,
  .instanceMethod y_O_begins,
  .selects R_O y_O_begins y_O_begins,
  .code y_O_begins prog_9_method_10_code 4 (some .int),
  .methodLink R_O 122 y_O_makes,
  .instanceMethod y_O_makes,
  .selects R_O y_O_makes y_O_makes,
  .code y_O_makes prog_9_method_19_code 3 (some .boolean),
  .methodLink R_O 89 y_O_isUnder,
  .static y_O_isUnder,
  .code y_O_isUnder prog_9_method_14_code 3 (some .boolean),
  .methodLink R_O 93 y_O_drop,
  .instanceMethod y_O_drop,
  .selects R_O y_O_drop y_O_drop,
  .code y_O_drop prog_9_method_13_code 5 none,
  .methodLink R_O 72 y_O_runs,
  .instanceMethod y_O_runs,
  .selects R_O y_O_runs y_O_runs,
  .code y_O_runs prog_9_method_3_code 2 (some .boolean)]
def w0_7 : List Cond := [.fieldLink R_O 53 "TextKeeperModel" "textSteps" "I",
  .fieldLink R_O 50 "TextKeeperModel" "textSize" "I",
  .fieldLink R_O 47 "TextKeeperModel" "text" "[B",
  .methodLink R_O 148 y_O_free,
  .instanceMethod y_O_free,
  .selects R_O y_O_free y_O_free,
  .code y_O_free prog_9_method_12_code 3 (some .int),
  .methodLink R_O 97 y_O_writes,
  .instanceMethod y_O_writes,
  .selects R_O y_O_writes y_O_writes,
  .code y_O_writes prog_9_method_4_code 2 (some .boolean),
  .methodLink R_O 156 y_O_isAsked,
  .instanceMethod y_O_isAsked,
  .selects R_O y_O_isAsked y_O_isAsked,
  .code y_O_isAsked prog_9_method_8_code 3 (some .boolean),
  .methodLink R_O 159 y_O_cleans,
  .instanceMethod y_O_cleans,
  .selects R_O y_O_cleans y_O_cleans,
  .code y_O_cleans prog_9_method_15_code 5 none,
  .methodLink R_O 162 y_O_kept,
  .instanceMethod y_O_kept,
  .selects R_O y_O_kept y_O_kept,
  .code y_O_kept prog_9_method_9_code 3 (some .int),
  .methodLink R_O 142 y_O_again,
  .instanceMethod y_O_again,
  .selects R_O y_O_again y_O_again,
  .code y_O_again prog_9_method_20_code 5 (some .boolean),
  .methodLink R_O 145 y_O_pieces,
  .instanceMethod y_O_pieces,
  .selects R_O y_O_pieces y_O_pieces,
  .code y_O_pieces prog_9_method_25_code 7 none,
  .fieldLink R_O 32 "TextKeeperModel" "authors" "[I",
  .fieldLink R_O 35 "TextKeeperModel" "sums" "[I",
  .methodLink R_O 152 y_O_sum,
  .instanceMethod y_O_sum,
  .selects R_O y_O_sum y_O_sum,
  .code y_O_sum prog_9_method_26_code 5 (some .int),
  .methodLink R_K 74 y_K_documentAt,
  .instanceMethod y_K_documentAt,
  .selects R_K y_K_documentAt y_K_documentAt]
def w0_8 : List Cond := [.code y_K_documentAt prog_1_method_23_code 2 (some (.object "TextKeeper$Document")),
  .methodLink R_K 193 y_D_keptAt,
  .methodLink R_K 56 y_K_needPower,
  .instanceMethod y_K_needPower,
  .selects R_K y_K_needPower y_K_needPower,
  .code y_K_needPower prog_1_method_21_code 1 none,
  .methodLink R_K 59 y_T_hasRoom,
  .methodLink R_K 63 y_T_addInt,
  .instanceMethod y_T_addInt,
  .selects R_T y_T_addInt y_T_addInt,
  .code y_T_addInt prog_7_method_5_code 3 none,
  .methodLink R_K 67 y_T_shorten,
  .methodLink R_K 134 y_T_byteAt,
  .methodLink R_K 177 y_P_goAfter,
  .instanceMethod y_P_goAfter,
  .selects R_P y_P_goAfter y_P_goAfter,
  .code y_P_goAfter prog_5_method_2_code 2 none,
  .methodLink R_K 184 y_P_comeBack,
  .instanceMethod y_P_comeBack,
  .selects R_P y_P_comeBack y_P_comeBack,
  .code y_P_comeBack prog_5_method_3_code 1 none,
  .methodLink R_K 190 y_P_lastsFor,
  .instanceMethod y_P_lastsFor,
  .selects R_P y_P_lastsFor y_P_lastsFor,
  .code y_P_lastsFor prog_5_method_4_code 2 (some .boolean),
  .methodLink R_K 149 y_K_keptRevision,
  .instanceMethod y_K_keptRevision,
  .selects R_K y_K_keptRevision y_K_keptRevision,
  .code y_K_keptRevision prog_1_method_24_code 4 (some (.object "TextKeeper$Revision")),
  .methodLink R_K 162 y_V_hasByte,
  .instanceMethod y_V_hasByte,
  .selects R_V y_V_hasByte y_V_hasByte,
  .initialized R_V,
  .code y_V_hasByte prog_6_method_2_code 2 (some .boolean),
  .methodLink R_K 70 y_K_spendWrites,
  .instanceMethod y_K_spendWrites,
  .selects R_K y_K_spendWrites y_K_spendWrites,
  .code y_K_spendWrites prog_1_method_22_code 2 none,
  .instantiable R_D 3,
  .code y_D_init prog_2_method_1_code 1 none]
def w0_9 : List Cond := [.methodLink R_K 73 y_D_init,
  .instanceMethod y_D_init,
  .methodLink R_K 197 y_D_countBlocks,
  .instanceMethod y_D_countBlocks,
  .selects R_D y_D_countBlocks y_D_countBlocks,
  .code y_D_countBlocks prog_2_method_8_code 3 (some .int),
  .methodLink R_K 97 y_K_countFree,
  .instanceMethod y_K_countFree,
  .selects R_K y_K_countFree y_K_countFree,
  .code y_K_countFree prog_1_method_26_code 6 (some .int),
  .methodLink R_K 116 y_D_canBeAsked,
  .instanceMethod y_D_canBeAsked,
  .selects R_D y_D_canBeAsked y_D_canBeAsked,
  .code y_D_canBeAsked prog_2_method_4_code 2 (some .boolean),
  .methodLink R_K 137 y_D_cutBefore,
  .instanceMethod y_D_cutBefore,
  .selects R_D y_D_cutBefore y_D_cutBefore,
  .code y_D_cutBefore prog_2_method_7_code 4 none,
  .methodLink R_K 78 y_D_isFull,
  .instanceMethod y_D_isFull,
  .selects R_D y_D_isFull y_D_isFull,
  .code y_D_isFull prog_2_method_2_code 1 (some .boolean),
  .methodLink R_K 85 y_M_makeBase,
  .instanceMethod y_M_makeBase,
  .selects R_M y_M_makeBase y_M_makeBase,
  .code y_M_makeBase prog_3_method_2_code 3 (some (.object "TextKeeper$Text")),
  .methodLink R_K 89 y_W_pieceOf,
  .instanceMethod y_W_pieceOf,
  .selects R_W y_W_pieceOf y_W_pieceOf,
  .code y_W_pieceOf prog_4_method_2_code 3 (some (.array .byte)),
  .methodLink R_K 93 y_K_blocksFor,
  .classLink R_K 101 R_V,
  .instantiable R_V 3,
  .methodLink R_K 103 y_T_sum,
  .instanceMethod y_T_sum,
  .selects R_T y_T_sum y_T_sum,
  .code y_T_sum prog_7_method_8_code 3 (some .int),
  .code y_V_init prog_6_method_1_code 4 none,
  .methodLink R_K 106 y_V_init,
  .instanceMethod y_V_init]
def w0_10 : List Cond := [.methodLink R_K 109 y_D_add,
  .instanceMethod y_D_add,
  .selects R_D y_D_add y_D_add,
  .code y_D_add prog_2_method_6_code 2 none,
  .methodLink R_K 113 y_D_newest,
  .instanceMethod y_D_newest,
  .selects R_D y_D_newest y_D_newest,
  .code y_D_newest prog_2_method_3_code 1 (some .int),
  .constant R_I 265 (1431655765 : Int32),
  .constant R_I 266 (858993459 : Int32),
  .constant R_I 267 (252645135 : Int32),
  .methodLink R_K 119 y_M_makeAgain,
  .methodLink R_K 122 y_T_become,
  .instanceMethod y_T_become,
  .selects R_T y_T_become y_T_become,
  .code y_T_become prog_7_method_7_code 2 none,
  .methodLink R_K 126 y_I_bitCount,
  .static y_I_bitCount,
  .initialized R_I,
  .code y_I_bitCount prog_14_method_49_code 1 (some .int),
  .methodLink R_O 1 objectInit,
  .arrayClass .boolean,
  .arrayClass .int,
  .arrayClass .short,
  .fieldLink R_O 56 "TextKeeperModel" "other" "[B",
  .fieldLink R_O 165 "TextKeeperModel" "otherSize" "I",
  .methodLink R_K 165 y_K_isSound,
  .instanceMethod y_K_isSound,
  .selects R_K y_K_isSound y_K_isSound,
  .code y_K_isSound prog_1_method_25_code 5 (some .boolean),
  .methodLink R_K 169 y_T_runWith,
  .methodLink R_K 173 y_T_runBackWith,
  .instanceMethod y_T_runBackWith,
  .selects R_T y_T_runBackWith y_T_runBackWith,
  .code y_T_runBackWith prog_7_method_10_code 5 (some .int),
  .classLink "TextKeeper" 187 "java/lang/IllegalStateException",
  .initialized "java/lang/IllegalStateException",
  .classLink "TextKeeper" 140 "java/util/NoSuchElementException",
  .initialized "java/util/NoSuchElementException",
  .classLink "TextKeeper" 146 "java/lang/IllegalArgumentException"]
def w0_11 : List Cond := [.initialized "java/lang/IllegalArgumentException",
  .methodLink R_L 7 y_K_feed,
  .instanceMethod y_K_feed,
  .selects R_K y_K_feed y_K_feed,
  .code y_K_feed prog_1_method_2_code 6 (some .boolean),
  .classLink "TextKeeperLaw" 13 "java/lang/IllegalStateException",
  .methodLink R_L 15 y_K_end,
  .instanceMethod y_K_end,
  .selects R_K y_K_end y_K_end,
  .code y_K_end prog_1_method_3_code 2 (some .boolean),
  .methodLink R_L 19 y_K_make,
  .instanceMethod y_K_make,
  .selects R_K y_K_make y_K_make,
  .code y_K_make prog_1_method_4_code 2 (some .int),
  .methodLink R_L 23 y_K_commit,
  .instanceMethod y_K_commit,
  .selects R_K y_K_commit y_K_commit,
  .code y_K_commit prog_1_method_5_code 7 (some .int),
  .methodLink R_L 27 y_K_fetch,
  .instanceMethod y_K_fetch,
  .selects R_K y_K_fetch y_K_fetch,
  .code y_K_fetch prog_1_method_6_code 5 (some .int),
  .methodLink R_L 30 y_K_out,
  .instanceMethod y_K_out,
  .selects R_K y_K_out y_K_out,
  .code y_K_out prog_1_method_7_code 2 (some .int),
  .methodLink R_L 34 y_K_steps,
  .instanceMethod y_K_steps,
  .selects R_K y_K_steps y_K_steps,
  .code y_K_steps prog_1_method_8_code 1 (some .int),
  .methodLink R_L 37 y_K_trim,
  .instanceMethod y_K_trim,
  .selects R_K y_K_trim y_K_trim,
  .code y_K_trim prog_1_method_9_code 4 (some .boolean),
  .methodLink R_L 41 y_K_dropDocument,
  .instanceMethod y_K_dropDocument,
  .selects R_K y_K_dropDocument y_K_dropDocument,
  .code y_K_dropDocument prog_1_method_10_code 2 (some .boolean),
  .methodLink R_L 44 y_K_about,
  .instanceMethod y_K_about]
def w0_12 : List Cond := [.selects R_K y_K_about y_K_about,
  .code y_K_about prog_1_method_11_code 4 (some .int),
  .classLink "TextKeeperLaw" 47 "java/util/NoSuchElementException",
  .classLink "TextKeeperLaw" 49 "java/lang/IllegalArgumentException",
  .methodLink R_L 51 y_K_revision,
  .instanceMethod y_K_revision,
  .selects R_K y_K_revision y_K_revision,
  .code y_K_revision prog_1_method_12_code 7 (some .int),
  .methodLink R_L 55 y_K_pieceByte,
  .instanceMethod y_K_pieceByte,
  .selects R_K y_K_pieceByte y_K_pieceByte,
  .code y_K_pieceByte prog_1_method_13_code 5 (some .int),
  .methodLink R_L 58 y_K_damage,
  .instanceMethod y_K_damage,
  .selects R_K y_K_damage y_K_damage,
  .code y_K_damage prog_1_method_14_code 6 (some .boolean),
  .methodLink R_L 62 y_K_verify,
  .instanceMethod y_K_verify,
  .selects R_K y_K_verify y_K_verify,
  .code y_K_verify prog_1_method_15_code 4 (some .int),
  .methodLink R_L 65 y_K_common,
  .instanceMethod y_K_common,
  .selects R_K y_K_common y_K_common,
  .code y_K_common prog_1_method_16_code 9 (some .int),
  .methodLink R_L 69 y_K_freeBlocks,
  .instanceMethod y_K_freeBlocks,
  .selects R_K y_K_freeBlocks y_K_freeBlocks,
  .code y_K_freeBlocks prog_1_method_17_code 1 (some .int),
  .methodLink R_L 72 y_K_cutAfter,
  .instanceMethod y_K_cutAfter,
  .selects R_K y_K_cutAfter y_K_cutAfter,
  .code y_K_cutAfter prog_1_method_18_code 2 (some .boolean),
  .codeWith y_L_feed method_3_code 8 (some .int) [(0, 23, 26, 13)],
  .methodLink R_L 79 y_L_feed,
  .static y_L_feed,
  .initialized R_L,
  .methodLink R_L 84 y_O_feed,
  .instanceMethod y_O_feed,
  .selects R_O y_O_feed y_O_feed,
  .code y_O_feed prog_9_method_5_code 8 (some .boolean)]
def w0_13 : List Cond := [.codeWith y_L_end method_4_code 4 (some .int) [(0, 16, 19, 13)],
  .methodLink R_L 85 y_L_end,
  .static y_L_end,
  .methodLink R_L 88 y_O_end,
  .instanceMethod y_O_end,
  .selects R_O y_O_end y_O_end,
  .code y_O_end prog_9_method_6_code 2 (some .boolean),
  .codeWith y_L_make method_5_code 3 (some .int) [(0, 8, 11, 13)],
  .methodLink R_L 89 y_L_make,
  .static y_L_make,
  .methodLink R_L 92 y_O_make,
  .instanceMethod y_O_make,
  .selects R_O y_O_make y_O_make,
  .code y_O_make prog_9_method_16_code 1 (some .int),
  .codeWith y_L_commit method_6_code 5 (some .int) [(0, 10, 13, 13)],
  .methodLink R_L 93 y_L_commit,
  .static y_L_commit,
  .methodLink R_L 96 y_O_commit,
  .instanceMethod y_O_commit,
  .selects R_O y_O_commit y_O_commit,
  .code y_O_commit prog_9_method_27_code 7 (some .int),
  .codeWith y_L_fetch method_7_code 5 (some .int) [(0, 10, 13, 13)],
  .methodLink R_L 97 y_L_fetch,
  .static y_L_fetch,
  .methodLink R_L 99 y_O_fetch,
  .instanceMethod y_O_fetch,
  .selects R_O y_O_fetch y_O_fetch,
  .code y_O_fetch prog_9_method_28_code 4 (some .int),
  .codeWith y_L_out method_8_code 4 (some .int) [(0, 9, 12, 13)],
  .methodLink R_L 100 y_L_out,
  .static y_L_out,
  .methodLink R_L 102 y_O_out,
  .instanceMethod y_O_out,
  .selects R_O y_O_out y_O_out,
  .code y_O_out prog_9_method_29_code 2 (some .int),
  .codeWith y_L_steps method_9_code 3 (some .int) [(0, 8, 11, 13)],
  .methodLink R_L 103 y_L_steps,
  .static y_L_steps,
  .methodLink R_L 105 y_O_steps,
  .instanceMethod y_O_steps]
def w0_14 : List Cond := [.selects R_O y_O_steps y_O_steps,
  .code y_O_steps prog_9_method_30_code 1 (some .int),
  .codeWith y_L_trim method_10_code 5 (some .int) [(0, 17, 20, 13)],
  .methodLink R_L 106 y_L_trim,
  .static y_L_trim,
  .methodLink R_L 108 y_O_trim,
  .instanceMethod y_O_trim,
  .selects R_O y_O_trim y_O_trim,
  .code y_O_trim prog_9_method_31_code 3 (some .boolean),
  .codeWith y_L_dropDocument method_11_code 4 (some .int) [(0, 16, 19, 13)],
  .methodLink R_L 109 y_L_dropDocument,
  .static y_L_dropDocument,
  .methodLink R_L 111 y_O_dropDocument,
  .instanceMethod y_O_dropDocument,
  .selects R_O y_O_dropDocument y_O_dropDocument,
  .code y_O_dropDocument prog_9_method_32_code 2 (some .boolean),
  .codeWith y_L_about method_12_code 5 (some .int) [(0, 10, 13, 47), (0, 10, 17, 49), (0, 10, 21, 13)],
  .methodLink R_L 112 y_L_about,
  .static y_L_about,
  .methodLink R_L 114 y_O_about,
  .instanceMethod y_O_about,
  .selects R_O y_O_about y_O_about,
  .code y_O_about prog_9_method_33_code 3 (some .int),
  .codeWith y_L_revision method_13_code 6 (some .int) [(0, 12, 15, 47), (0, 12, 19, 49), (0, 12, 23, 13)],
  .methodLink R_L 115 y_L_revision,
  .static y_L_revision,
  .methodLink R_L 118 y_O_revision,
  .instanceMethod y_O_revision,
  .selects R_O y_O_revision y_O_revision,
  .code y_O_revision prog_9_method_34_code 5 (some .int),
  .codeWith y_L_pieceByte method_14_code 6 (some .int) [(0, 12, 15, 13)],
  .methodLink R_L 119 y_L_pieceByte,
  .static y_L_pieceByte,
  .methodLink R_L 121 y_O_pieceByte,
  .instanceMethod y_O_pieceByte,
  .selects R_O y_O_pieceByte y_O_pieceByte,
  .code y_O_pieceByte prog_9_method_35_code 5 (some .int),
  .codeWith y_L_damage method_15_code 7 (some .int) [(0, 21, 24, 13)],
  .methodLink R_L 122 y_L_damage,
  .static y_L_damage]
def w0_15 : List Cond := [.methodLink R_L 125 y_O_damage,
  .instanceMethod y_O_damage,
  .selects R_O y_O_damage y_O_damage,
  .code y_O_damage prog_9_method_36_code 6 (some .boolean),
  .codeWith y_L_verify method_16_code 4 (some .int) [(0, 9, 12, 13)],
  .methodLink R_L 126 y_L_verify,
  .static y_L_verify,
  .methodLink R_L 128 y_O_verify,
  .instanceMethod y_O_verify,
  .selects R_O y_O_verify y_O_verify,
  .code y_O_verify prog_9_method_37_code 3 (some .int),
  .codeWith y_L_common method_17_code 7 (some .int) [(0, 14, 17, 13)],
  .methodLink R_L 129 y_L_common,
  .static y_L_common,
  .methodLink R_L 131 y_O_common,
  .instanceMethod y_O_common,
  .selects R_O y_O_common y_O_common,
  .code y_O_common prog_9_method_38_code 8 (some .int),
  .codeWith y_L_freeBlocks method_18_code 3 (some .int) [(0, 8, 11, 13)],
  .methodLink R_L 132 y_L_freeBlocks,
  .static y_L_freeBlocks,
  .methodLink R_L 134 y_O_freeBlocks,
  .instanceMethod y_O_freeBlocks,
  .selects R_O y_O_freeBlocks y_O_freeBlocks,
  .code y_O_freeBlocks prog_9_method_39_code 1 (some .int),
  .codeWith y_L_cutAfter method_19_code 4 (some .int) [(0, 16, 19, 13)],
  .methodLink R_L 135 y_L_cutAfter,
  .static y_L_cutAfter,
  .methodLink R_L 137 y_O_cutAfter,
  .instanceMethod y_O_cutAfter,
  .selects R_O y_O_cutAfter y_O_cutAfter,
  .code y_O_cutAfter prog_9_method_40_code 2 (some .boolean),
  .methodLink R_L 138 y_O_thrown,
  .instanceMethod y_O_thrown,
  .selects R_O y_O_thrown y_O_thrown,
  .code y_O_thrown prog_9_method_2_code 1 (some .int),
  .methodLink R_L 141 y_K_start,
  .instanceMethod y_K_start,
  .selects R_K y_K_start y_K_start,
  .code y_K_start prog_1_method_19_code 1 (some .boolean)]
def w0_16 : List Cond := [.methodLink R_L 145 y_O_start,
  .instanceMethod y_O_start,
  .selects R_O y_O_start y_O_start,
  .code y_O_start prog_9_method_41_code 2 (some .boolean),
  .methodLink R_L 146 y_K_isDown,
  .instanceMethod y_K_isDown,
  .selects R_K y_K_isDown y_K_isDown,
  .code y_K_isDown prog_1_method_20_code 1 (some .boolean),
  .methodLink R_L 149 y_O_isDown,
  .instanceMethod y_O_isDown,
  .selects R_O y_O_isDown y_O_isDown,
  .code y_O_isDown prog_9_method_42_code 1 (some .boolean),
  .initialized "java/lang/Throwable",
  .initialized "java/lang/Exception",
  .initialized "java/lang/RuntimeException",
  .instantiable "java/lang/IllegalStateException" 6,
  .selects "java/lang/IllegalStateException" ⟨"java/lang/Throwable","fillInStackTrace","(I)Ljava/lang/Throwable;"⟩ ⟨"java/lang/Throwable","fillInStackTrace","(I)Ljava/lang/Throwable;"⟩,
  .selects "java/lang/IllegalStateException" ⟨"java/lang/Throwable","fillInStackTrace","()Ljava/lang/Throwable;"⟩ ⟨"java/lang/Throwable","fillInStackTrace","()Ljava/lang/Throwable;"⟩,
  .lays "java/lang/IllegalStateException" "java/lang/Throwable" "cause" "Ljava/lang/Throwable;",
  .lays "java/lang/Throwable" "java/lang/Throwable" "cause" "Ljava/lang/Throwable;",
  .lays "java/lang/IllegalStateException" "java/lang/Throwable" "stackTrace" "[Ljava/lang/StackTraceElement;",
  .lays "java/lang/Throwable" "java/lang/Throwable" "stackTrace" "[Ljava/lang/StackTraceElement;",
  .lays "java/lang/IllegalStateException" "java/lang/Throwable" "suppressedExceptions" "Ljava/util/List;",
  .lays "java/lang/Throwable" "java/lang/Throwable" "suppressedExceptions" "Ljava/util/List;",
  .lays "java/lang/IllegalStateException" "java/lang/Throwable" "detailMessage" "Ljava/lang/String;",
  .lays "java/lang/Throwable" "java/lang/Throwable" "detailMessage" "Ljava/lang/String;",
  .lays "java/lang/IllegalStateException" "java/lang/Throwable" "backtrace" "Ljava/lang/Object;",
  .lays "java/lang/Throwable" "java/lang/Throwable" "backtrace" "Ljava/lang/Object;",
  .fieldLink "java/lang/Throwable" 198 "java/lang/Throwable" "backtrace" "Ljava/lang/Object;",
  .superclass "java/lang/Throwable" "java/lang/Object",
  .instanceMethod ⟨"java/lang/Throwable","<init>","()V"⟩,
  .code ⟨"java/lang/Throwable","<init>","()V"⟩ prog_18_method_1_code 1 (Option.none : Option Jvm.ClassFile.FieldType),
  .methodLink "java/lang/Throwable" 1 ⟨"java/lang/Object","<init>","()V"⟩,
  .fieldLink "java/lang/Throwable" 13 "java/lang/Throwable" "UNASSIGNED_STACK" "[Ljava/lang/StackTraceElement;",
  .fieldLink "java/lang/Throwable" 20 "java/lang/Throwable" "SUPPRESSED_SENTINEL" "Ljava/util/List;",
  .methodLink "java/lang/Throwable" 27 ⟨"java/lang/Throwable","fillInStackTrace","()Ljava/lang/Throwable;"⟩,
  .instanceMethod ⟨"java/lang/Throwable","fillInStackTrace","()Ljava/lang/Throwable;"⟩,
  .selects "java/lang/IllegalArgumentException" ⟨"java/lang/Throwable","fillInStackTrace","()Ljava/lang/Throwable;"⟩ ⟨"java/lang/Throwable","fillInStackTrace","()Ljava/lang/Throwable;"⟩,
  .selects "java/util/NoSuchElementException" ⟨"java/lang/Throwable","fillInStackTrace","()Ljava/lang/Throwable;"⟩ ⟨"java/lang/Throwable","fillInStackTrace","()Ljava/lang/Throwable;"⟩,
  .codeSync ⟨"java/lang/Throwable","fillInStackTrace","()Ljava/lang/Throwable;"⟩ prog_18_method_18_code 1 (Option.some (.object "java/lang/Throwable"))]
def w0_17 : List Cond := [.methodLink "java/lang/Throwable" 202 ⟨"java/lang/Throwable","fillInStackTrace","(I)Ljava/lang/Throwable;"⟩,
  .instanceMethod ⟨"java/lang/Throwable","fillInStackTrace","(I)Ljava/lang/Throwable;"⟩,
  .instantiable "java/lang/Throwable" 6,
  .native ⟨"java/lang/Throwable","fillInStackTrace","(I)Ljava/lang/Throwable;"⟩,
  .methodLink "TextKeeper" 189 ⟨"java/lang/IllegalStateException","<init>","()V"⟩,
  .instanceMethod ⟨"java/lang/IllegalStateException","<init>","()V"⟩,
  .code ⟨"java/lang/IllegalStateException","<init>","()V"⟩ prog_13_method_1_code 1 (Option.none : Option Jvm.ClassFile.FieldType),
  .methodLink "java/lang/IllegalStateException" 1 ⟨"java/lang/RuntimeException","<init>","()V"⟩,
  .instanceMethod ⟨"java/lang/RuntimeException","<init>","()V"⟩,
  .code ⟨"java/lang/RuntimeException","<init>","()V"⟩ prog_16_method_1_code 1 (Option.none : Option Jvm.ClassFile.FieldType),
  .methodLink "java/lang/RuntimeException" 1 ⟨"java/lang/Exception","<init>","()V"⟩,
  .instanceMethod ⟨"java/lang/Exception","<init>","()V"⟩,
  .code ⟨"java/lang/Exception","<init>","()V"⟩ prog_11_method_1_code 1 (Option.none : Option Jvm.ClassFile.FieldType),
  .methodLink "java/lang/Exception" 1 ⟨"java/lang/Throwable","<init>","()V"⟩,
  .fieldLink "java/lang/Throwable" 7 "java/lang/Throwable" "cause" "Ljava/lang/Throwable;",
  .fieldLink "java/lang/Throwable" 17 "java/lang/Throwable" "stackTrace" "[Ljava/lang/StackTraceElement;",
  .fieldLink "java/lang/Throwable" 24 "java/lang/Throwable" "suppressedExceptions" "Ljava/util/List;",
  .lays "java/lang/IllegalStateException" "java/lang/Throwable" "depth" "I",
  .superclass "java/lang/IllegalStateException" "java/lang/RuntimeException",
  .instantiable "java/util/NoSuchElementException" 6,
  .selects "java/util/NoSuchElementException" ⟨"java/lang/Throwable","fillInStackTrace","(I)Ljava/lang/Throwable;"⟩ ⟨"java/lang/Throwable","fillInStackTrace","(I)Ljava/lang/Throwable;"⟩,
  .lays "java/util/NoSuchElementException" "java/lang/Throwable" "cause" "Ljava/lang/Throwable;",
  .lays "java/util/NoSuchElementException" "java/lang/Throwable" "stackTrace" "[Ljava/lang/StackTraceElement;",
  .lays "java/util/NoSuchElementException" "java/lang/Throwable" "suppressedExceptions" "Ljava/util/List;",
  .lays "java/util/NoSuchElementException" "java/lang/Throwable" "detailMessage" "Ljava/lang/String;",
  .lays "java/util/NoSuchElementException" "java/lang/Throwable" "backtrace" "Ljava/lang/Object;",
  .methodLink "TextKeeper" 142 ⟨"java/util/NoSuchElementException","<init>","()V"⟩,
  .instanceMethod ⟨"java/util/NoSuchElementException","<init>","()V"⟩,
  .code ⟨"java/util/NoSuchElementException","<init>","()V"⟩ prog_20_method_1_code 1 (Option.none : Option Jvm.ClassFile.FieldType),
  .methodLink "java/util/NoSuchElementException" 1 ⟨"java/lang/RuntimeException","<init>","()V"⟩,
  .lays "java/util/NoSuchElementException" "java/lang/Throwable" "depth" "I",
  .superclass "java/util/NoSuchElementException" "java/lang/RuntimeException",
  .instantiable "java/lang/IllegalArgumentException" 6,
  .selects "java/lang/IllegalArgumentException" ⟨"java/lang/Throwable","fillInStackTrace","(I)Ljava/lang/Throwable;"⟩ ⟨"java/lang/Throwable","fillInStackTrace","(I)Ljava/lang/Throwable;"⟩,
  .lays "java/lang/IllegalArgumentException" "java/lang/Throwable" "cause" "Ljava/lang/Throwable;",
  .lays "java/lang/IllegalArgumentException" "java/lang/Throwable" "stackTrace" "[Ljava/lang/StackTraceElement;",
  .lays "java/lang/IllegalArgumentException" "java/lang/Throwable" "suppressedExceptions" "Ljava/util/List;",
  .lays "java/lang/IllegalArgumentException" "java/lang/Throwable" "detailMessage" "Ljava/lang/String;",
  .lays "java/lang/IllegalArgumentException" "java/lang/Throwable" "backtrace" "Ljava/lang/Object;",
  .methodLink "TextKeeper" 148 ⟨"java/lang/IllegalArgumentException","<init>","()V"⟩]
def w0_18 : List Cond := [.instanceMethod ⟨"java/lang/IllegalArgumentException","<init>","()V"⟩,
  .code ⟨"java/lang/IllegalArgumentException","<init>","()V"⟩ prog_12_method_1_code 1 (Option.none : Option Jvm.ClassFile.FieldType),
  .methodLink "java/lang/IllegalArgumentException" 1 ⟨"java/lang/RuntimeException","<init>","()V"⟩,
  .lays "java/lang/IllegalArgumentException" "java/lang/Throwable" "depth" "I",
  .superclass "java/lang/IllegalArgumentException" "java/lang/RuntimeException",
  .classLink R_L 8 R_K,
  .instantiable R_K 9,
  .methodLink R_L 75 y_K_init,
  .instanceMethod y_K_init,
  .methodLink R_A 310 ⟨"[B","clone","()Ljava/lang/Object;"⟩,
  .instanceMethod ⟨"java/lang/Object","clone","()Ljava/lang/Object;"⟩,
  .selects "[B" ⟨"[B","clone","()Ljava/lang/Object;"⟩ ⟨"java/lang/Object","clone","()Ljava/lang/Object;"⟩,
  .classLink R_A 311 "[B",
  .classLink R_L 76 R_O,
  .instantiable R_O 27,
  .methodLink R_L 78 y_O_init,
  .instanceMethod y_O_init,
  .code y_K_init prog_1_method_1_code 1 none,
  .code y_O_init prog_9_method_1_code 2 none,
  .arrayClass .long]
def w0 : List Cond := w0_0 ++ (w0_1 ++ (w0_2 ++ (w0_3 ++ (w0_4 ++ (w0_5 ++ (w0_6 ++ (w0_7 ++ (w0_8 ++ (w0_9 ++ (w0_10 ++ (w0_11 ++ (w0_12 ++ (w0_13 ++ (w0_14 ++ (w0_15 ++ (w0_16 ++ (w0_17 ++ (w0_18))))))))))))))))))
def nw0 : List Cond := [.fieldLinkNest R_W 23 "TextKeeper$Text" "length" "I" "TextKeeper",
  .fieldLinkNest R_M 75 "TextKeeper$Text" "length" "I" "TextKeeper",
  .methodLinkNest R_D 24 y_K_baseOf "TextKeeper",
  .fieldLinkNest R_D 28 "TextKeeper$Revision" "piece" "[B" "TextKeeper",
  .methodLinkNest R_D 32 y_K_blocksFor "TextKeeper",
  .fieldLinkNest R_M 51 "TextKeeper$Revision" "piece" "[B" "TextKeeper",
  .methodLinkNest R_M 33 y_K_baseOf "TextKeeper",
  .fieldLinkNest R_K 180 "TextKeeper$Power" "down" "Z" "TextKeeper",
  .fieldLinkNest R_K 153 "TextKeeper$Revision" "piece" "[B" "TextKeeper",
  .fieldLinkNest R_K 82 "TextKeeper$Document" "count" "I" "TextKeeper",
  .fieldLinkNest R_K 131 "TextKeeper$Text" "length" "I" "TextKeeper",
  .fieldLinkNest R_K 160 "TextKeeper$Revision" "sum" "I" "TextKeeper",
  .fieldLinkNest R_K 143 "TextKeeper$Document" "first" "I" "TextKeeper",
  .fieldLinkNest R_K 157 "TextKeeper$Revision" "author" "I" "TextKeeper",
  .castable "java/lang/IllegalStateException" "java/lang/IllegalStateException",
  .castable "java/util/NoSuchElementException" "java/util/NoSuchElementException",
  .castable "java/lang/IllegalArgumentException" "java/lang/IllegalArgumentException",
  .declares ⟨"java/lang/RuntimeException","<init>","()V"⟩,
  .declares ⟨"java/lang/Exception","<init>","()V"⟩,
  .declares ⟨"java/lang/Throwable","<init>","()V"⟩]
def ao0 : List String := ["TextKeeper$Document", "TextKeeper$Revision"]
def nw_kind : Cond → Bool
  | .fieldLinkNest .. => true
  | .methodLinkNest .. => true
  | .declares .. => true
  | .castable .. => true
  | _ => false
theorem nw0_kind : ∀ w ∈ nw0, nw_kind w = true := by decide +kernel
theorem nw0_tab : ∀ w ∈ nw0, w.onTables = true := by decide +kernel
theorem gd_places {big : List Cond} (ws : List Cond) (ps : List Nat) (hp : ws = ps.filterMap (fun i => big[i]?)) (h : ws.all goodWord = true) : GoodIn big ws := by
  intro w hw
  have h1 := List.all_eq_true.mp h w hw
  rw [hp] at hw
  obtain ⟨i, -, hi⟩ := List.mem_filterMap.mp hw
  exact ⟨List.mem_of_getElem? hi, good_of_word h1⟩
theorem gd_both {big a b : List Cond} (ha : GoodIn big a) (hb : GoodIn big b) : GoodIn big (a ++ b) := fun w h => (List.mem_append.mp h).elim (ha w) (hb w)
set_option maxRecDepth 100000 in
set_option maxHeartbeats 4000000 in
theorem w0_ok_0 : GoodIn lw_tbl w0_0 := gd_places _ [141, 143, 145, 147, 149, 151, 153, 155, 157, 75, 77, 93, 95, 97, 99, 110, 112, 125, 127, 129, 297, 299, 301, 439, 441, 443, 654, 656, 658, 660, 662, 664, 666, 668, 670, 672, 674, 676, 678, 680] rfl (by decide +kernel)
set_option maxRecDepth 100000 in
set_option maxHeartbeats 4000000 in
theorem w0_ok_1 : GoodIn lw_tbl w0_1 := gd_places _ [682, 684, 686, 688, 690, 692, 694, 696, 698, 700, 702, 704, 706, 120, 60, 61, 121, 123, 124, 69, 80, 70, 71, 107, 108, 109, 86, 87, 65, 37, 68, 88, 67, 89, 90, 91, 92, 59, 62, 132] rfl (by decide +kernel)
set_option maxRecDepth 100000 in
set_option maxHeartbeats 4000000 in
theorem w0_ok_2 : GoodIn lw_tbl w0_2 := gd_places _ [64, 66, 133, 134, 135, 81, 82, 38, 85, 83, 84, 136, 102, 103, 39, 106, 104, 105, 137, 115, 116, 40, 119, 117, 118, 138, 139, 140, 255, 256, 257, 258, 470, 408, 407, 49, 378, 376, 377, 47] rfl (by decide +kernel)
set_option maxRecDepth 100000 in
set_option maxHeartbeats 4000000 in
theorem w0_ok_3 : GoodIn lw_tbl w0_3 := gd_places _ [387, 388, 389, 390, 392, 12, 393, 394, 358, 359, 360, 383, 385, 11, 386, 372, 373, 374, 375, 369, 370, 371, 379, 381, 10, 382, 405, 406, 365, 367, 9, 368, 395, 396, 48, 397, 649, 650, 780, 782] rfl (by decide +kernel)
set_option maxRecDepth 100000 in
set_option maxHeartbeats 4000000 in
theorem w0_ok_4 : GoodIn lw_tbl w0_4 := gd_places _ [28, 41, 783, 631, 641, 630, 640, 776, 778, 27, 779, 768, 770, 25, 771, 772, 774, 26, 775, 653, 651, 652, 639, 352, 357, 343, 345, 6, 346, 347, 248, 249, 250, 353, 355, 8, 356, 348, 350, 7] rfl (by decide +kernel)
set_option maxRecDepth 100000 in
set_option maxHeartbeats 4000000 in
theorem w0_ok_5 : GoodIn lw_tbl w0_5 := gd_places _ [351, 642, 760, 762, 23, 763, 643, 636, 756, 758, 22, 759, 339, 341, 5, 342, 430, 431, 435, 437, 289, 290, 292, 293, 295, 326, 36, 325, 411, 410, 335, 336, 337, 46, 338, 323, 267, 268, 269, 331] rfl (by decide +kernel)
set_option maxRecDepth 100000 in
set_option maxHeartbeats 4000000 in
theorem w0_ok_6 : GoodIn lw_tbl w0_6 := gd_places _ [333, 4, 334, 327, 328, 329, 330, 628, 627, 629, 632, 633, 740, 742, 18, 743, 634, 635, 784, 785, 786, 752, 754, 21, 755, 748, 750, 20, 751, 819, 820, 821, 822, 824, 33, 825, 720, 722, 16, 723] rfl (by decide +kernel)
set_option maxRecDepth 100000 in
set_option maxHeartbeats 4000000 in
theorem w0_ok_7 : GoodIn lw_tbl w0_7 := gd_places _ [646, 645, 644, 787, 789, 29, 790, 732, 734, 17, 735, 799, 801, 31, 802, 815, 817, 32, 818, 838, 840, 34, 841, 744, 746, 19, 747, 764, 766, 24, 767, 637, 638, 791, 793, 30, 794, 311, 313, 3] rfl (by decide +kernel)
set_option maxRecDepth 100000 in
set_option maxHeartbeats 4000000 in
theorem w0_ok_8 : GoodIn lw_tbl w0_8 := gd_places _ [314, 561, 180, 182, 0, 183, 247, 251, 252, 253, 254, 266, 484, 617, 618, 619, 620, 164, 165, 166, 167, 281, 282, 283, 284, 557, 559, 14, 560, 569, 570, 571, 50, 572, 277, 279, 2, 280, 285, 288] rfl (by decide +kernel)
set_option maxRecDepth 100000 in
set_option maxHeartbeats 4000000 in
theorem w0_ok_9 : GoodIn lw_tbl w0_9 := gd_places _ [286, 287, 416, 417, 418, 419, 412, 414, 13, 415, 461, 462, 463, 464, 499, 500, 501, 502, 315, 316, 317, 318, 319, 320, 321, 322, 361, 362, 363, 364, 409, 421, 422, 423, 424, 425, 426, 429, 427, 428] rfl (by decide +kernel)
set_option maxRecDepth 100000 in
set_option maxHeartbeats 4000000 in
theorem w0_ok_10 : GoodIn lw_tbl w0_10 := gd_places _ [446, 447, 448, 449, 450, 451, 452, 453, 474, 475, 476, 465, 466, 467, 468, 469, 471, 472, 51, 473, 626, 709, 710, 711, 647, 648, 587, 589, 15, 590, 598, 599, 600, 601, 602, 184, 45, 520, 52, 535] rfl (by decide +kernel)
set_option maxRecDepth 100000 in
set_option maxHeartbeats 4000000 in
theorem w0_ok_11 : GoodIn lw_tbl w0_11 := gd_places _ [53, 176, 177, 178, 179, 175, 262, 263, 264, 265, 273, 274, 275, 276, 307, 308, 309, 310, 457, 458, 459, 460, 480, 481, 482, 483, 488, 489, 490, 491, 495, 496, 497, 498, 507, 508, 509, 510, 516, 517] rfl (by decide +kernel)
set_option maxRecDepth 100000 in
set_option maxHeartbeats 4000000 in
theorem w0_ok_12 : GoodIn lw_tbl w0_12 := gd_places _ [518, 519, 514, 515, 553, 554, 555, 556, 565, 566, 567, 568, 576, 577, 578, 579, 583, 584, 585, 586, 594, 595, 596, 597, 606, 607, 608, 609, 613, 614, 615, 616, 174, 172, 173, 35, 716, 717, 718, 719] rfl (by decide +kernel)
set_option maxRecDepth 100000 in
set_option maxHeartbeats 4000000 in
theorem w0_ok_13 : GoodIn lw_tbl w0_13 := gd_places _ [261, 259, 260, 724, 725, 726, 727, 272, 270, 271, 728, 729, 730, 731, 306, 304, 305, 736, 737, 738, 739, 456, 454, 455, 795, 796, 797, 798, 479, 477, 478, 803, 804, 805, 806, 487, 485, 486, 807, 808] rfl (by decide +kernel)
set_option maxRecDepth 100000 in
set_option maxHeartbeats 4000000 in
theorem w0_ok_14 : GoodIn lw_tbl w0_14 := gd_places _ [809, 810, 494, 492, 493, 811, 812, 813, 814, 506, 504, 505, 826, 827, 828, 829, 513, 511, 512, 830, 831, 832, 833, 552, 550, 551, 834, 835, 836, 837, 564, 562, 563, 842, 843, 844, 845, 575, 573, 574] rfl (by decide +kernel)
set_option maxRecDepth 100000 in
set_option maxHeartbeats 4000000 in
theorem w0_ok_15 : GoodIn lw_tbl w0_15 := gd_places _ [846, 847, 848, 849, 582, 580, 581, 850, 851, 852, 853, 593, 591, 592, 854, 855, 856, 857, 605, 603, 604, 858, 859, 860, 861, 612, 610, 611, 862, 863, 864, 865, 712, 713, 714, 715, 160, 161, 162, 163] rfl (by decide +kernel)
set_option maxRecDepth 100000 in
set_option maxHeartbeats 4000000 in
theorem w0_ok_16 : GoodIn lw_tbl w0_16 := gd_places _ [866, 867, 868, 869, 168, 169, 170, 171, 870, 871, 872, 873, 42, 43, 44, 185, 193, 194, 195, 196, 197, 198, 199, 200, 201, 202, 203, 204, 205, 206, 207, 208, 209, 210, 212, 214, 215, 217, 218, 219] rfl (by decide +kernel)
set_option maxRecDepth 100000 in
set_option maxHeartbeats 4000000 in
theorem w0_ok_17 : GoodIn lw_tbl w0_17 := gd_places _ [220, 222, 223, 224, 225, 226, 227, 228, 229, 230, 231, 232, 233, 234, 236, 237, 238, 243, 246, 521, 523, 524, 525, 526, 527, 528, 529, 530, 531, 532, 533, 534, 536, 538, 539, 540, 541, 542, 543, 544] rfl (by decide +kernel)
set_option maxRecDepth 100000 in
set_option maxHeartbeats 4000000 in
theorem w0_ok_18 : GoodIn lw_tbl w0_18 := gd_places _ [545, 546, 547, 548, 549, 54, 55, 56, 57, 398, 401, 402, 404, 621, 622, 623, 624, 58, 625, 874] rfl (by decide +kernel)
theorem w0_ok : GoodIn lw_tbl w0 := gd_both w0_ok_0 (gd_both w0_ok_1 (gd_both w0_ok_2 (gd_both w0_ok_3 (gd_both w0_ok_4 (gd_both w0_ok_5 (gd_both w0_ok_6 (gd_both w0_ok_7 (gd_both w0_ok_8 (gd_both w0_ok_9 (gd_both w0_ok_10 (gd_both w0_ok_11 (gd_both w0_ok_12 (gd_both w0_ok_13 (gd_both w0_ok_14 (gd_both w0_ok_15 (gd_both w0_ok_16 (gd_both w0_ok_17 (w0_ok_18))))))))))))))))))
theorem w0_good (w : Cond) (h : w ∈ w0) : (w.onTables && w.keeps) = true ∨ ∃ ty, w = .arrayClass ty := (w0_ok w h).2
set_option maxRecDepth 100000 in
theorem in_K : ∀ w ∈ u_ws R_K F_K 9, w ∈ w0 := by decide +kernel
theorem tk_K : ∀ k, k < 9 → parseFieldDescriptor (F_K k).2.2.1 = some (ft_K k) := by decide +kernel
theorem nk_K : ∀ a, a < 9 → ∀ b, b < 9 → a ≠ b → (F_K a).2.1 ≠ (F_K b).2.1 := by decide +kernel
theorem nw_K : ∀ j, j < 9 → defaultValue (ft_K j) = vp_V [.null, .null, .null, .null, .null, .null, .null, .int 0, .int 0] j := by decide +kernel
set_option maxRecDepth 100000 in
theorem in_T : ∀ w ∈ u_ws R_T F_T 2, w ∈ w0 := by decide +kernel
theorem tk_T : ∀ k, k < 2 → parseFieldDescriptor (F_T k).2.2.1 = some (ft_T k) := by decide +kernel
theorem nk_T : ∀ a, a < 2 → ∀ b, b < 2 → a ≠ b → (F_T a).2.1 ≠ (F_T b).2.1 := by decide +kernel
theorem nw_T : ∀ j, j < 2 → defaultValue (ft_T j) = vp_V [.null, .int 0] j := by decide +kernel
set_option maxRecDepth 100000 in
theorem in_M : ∀ w ∈ u_ws R_M F_M 4, w ∈ w0 := by decide +kernel
theorem tk_M : ∀ k, k < 4 → parseFieldDescriptor (F_M k).2.2.1 = some (ft_M k) := by decide +kernel
theorem nk_M : ∀ a, a < 4 → ∀ b, b < 4 → a ≠ b → (F_M a).2.1 ≠ (F_M b).2.1 := by decide +kernel
theorem nw_M : ∀ j, j < 4 → defaultValue (ft_M j) = vp_V [.null, .null, .null, .int 0] j := by decide +kernel
set_option maxRecDepth 100000 in
theorem in_W : ∀ w ∈ u_ws R_W F_W 2, w ∈ w0 := by decide +kernel
theorem tk_W : ∀ k, k < 2 → parseFieldDescriptor (F_W k).2.2.1 = some (ft_W k) := by decide +kernel
theorem nk_W : ∀ a, a < 2 → ∀ b, b < 2 → a ≠ b → (F_W a).2.1 ≠ (F_W b).2.1 := by decide +kernel
theorem nw_W : ∀ j, j < 2 → defaultValue (ft_W j) = vp_V [.null, .int 0] j := by decide +kernel
set_option maxRecDepth 100000 in
theorem in_P : ∀ w ∈ u_ws R_P F_P 3, w ∈ w0 := by decide +kernel
theorem tk_P : ∀ k, k < 3 → parseFieldDescriptor (F_P k).2.2.1 = some (ft_P k) := by decide +kernel
theorem nk_P : ∀ a, a < 3 → ∀ b, b < 3 → a ≠ b → (F_P a).2.1 ≠ (F_P b).2.1 := by decide +kernel
theorem nw_P : ∀ j, j < 3 → defaultValue (ft_P j) = vp_V [.int 0, .int 0, .int 0] j := by decide +kernel
set_option maxRecDepth 100000 in
theorem in_D : ∀ w ∈ u_ws R_D F_D 3, w ∈ w0 := by decide +kernel
theorem tk_D : ∀ k, k < 3 → parseFieldDescriptor (F_D k).2.2.1 = some (ft_D k) := by decide +kernel
theorem nk_D : ∀ a, a < 3 → ∀ b, b < 3 → a ≠ b → (F_D a).2.1 ≠ (F_D b).2.1 := by decide +kernel
theorem nw_D : ∀ j, j < 3 → defaultValue (ft_D j) = vp_V [.null, .int 0, .int 0] j := by decide +kernel
set_option maxRecDepth 100000 in
theorem in_V : ∀ w ∈ u_ws R_V F_V 3, w ∈ w0 := by decide +kernel
theorem tk_V : ∀ k, k < 3 → parseFieldDescriptor (F_V k).2.2.1 = some (ft_V k) := by decide +kernel
theorem nk_V : ∀ a, a < 3 → ∀ b, b < 3 → a ≠ b → (F_V a).2.1 ≠ (F_V b).2.1 := by decide +kernel
theorem nw_V : ∀ j, j < 3 → defaultValue (ft_V j) = vp_V [.null, .int 0, .int 0] j := by decide +kernel
set_option maxRecDepth 100000 in
theorem in_O : ∀ w ∈ u_ws R_O F_O 27, w ∈ w0 := by decide +kernel
theorem tk_O : ∀ k, k < 27 → parseFieldDescriptor (F_O k).2.2.1 = some (ft_O k) := by decide +kernel
theorem nk_O : ∀ a, a < 27 → ∀ b, b < 27 → a ≠ b → (F_O a).2.1 ≠ (F_O b).2.1 := by decide +kernel
theorem nw_O : ∀ j, j < 27 → defaultValue (ft_O j) = vp_V [.int 0, .int 0, .int 0, .null, .int 0, .int 0, .null, .null, .null, .null, .null, .null, .null, .null, .int 0, .null, .int 0, .null, .int 0, .int 0, .null, .int 0, .null, .int 0, .int 0, .int 0, .int 0] j := by decide +kernel
def k_K_init : List Cond := .code y_K_init prog_1_method_1_code 1 none :: w0
def k_K_about : List Cond := .code y_K_about prog_1_method_11_code 4 (some .int) :: w0
def k_K_baseOf : List Cond := .code y_K_baseOf prog_1_method_28_code 1 (some .int) :: w0
def k_K_blocksFor : List Cond := .code y_K_blocksFor prog_1_method_27_code 1 (some .int) :: w0
def k_K_commit : List Cond := .code y_K_commit prog_1_method_5_code 7 (some .int) :: w0
def k_K_common : List Cond := .code y_K_common prog_1_method_16_code 9 (some .int) :: w0
def k_K_countFree : List Cond := .code y_K_countFree prog_1_method_26_code 6 (some .int) :: w0
def k_K_cutAfter : List Cond := .code y_K_cutAfter prog_1_method_18_code 2 (some .boolean) :: w0
def k_K_damage : List Cond := .code y_K_damage prog_1_method_14_code 6 (some .boolean) :: w0
def k_K_documentAt : List Cond := .code y_K_documentAt prog_1_method_23_code 2 (some (.object "TextKeeper$Document")) :: w0
def k_K_dropDocument : List Cond := .code y_K_dropDocument prog_1_method_10_code 2 (some .boolean) :: w0
def k_K_end : List Cond := .code y_K_end prog_1_method_3_code 2 (some .boolean) :: w0
def k_K_feed : List Cond := .code y_K_feed prog_1_method_2_code 6 (some .boolean) :: w0
def k_K_fetch : List Cond := .code y_K_fetch prog_1_method_6_code 5 (some .int) :: w0
def k_K_freeBlocks : List Cond := .code y_K_freeBlocks prog_1_method_17_code 1 (some .int) :: w0
def k_K_isDown : List Cond := .code y_K_isDown prog_1_method_20_code 1 (some .boolean) :: w0
def k_K_isSound : List Cond := .code y_K_isSound prog_1_method_25_code 5 (some .boolean) :: w0
def k_K_keptRevision : List Cond := .code y_K_keptRevision prog_1_method_24_code 4 (some (.object "TextKeeper$Revision")) :: w0
def k_K_make : List Cond := .code y_K_make prog_1_method_4_code 2 (some .int) :: w0
def k_K_needPower : List Cond := .code y_K_needPower prog_1_method_21_code 1 none :: w0
def k_K_out : List Cond := .code y_K_out prog_1_method_7_code 2 (some .int) :: w0
def k_K_pieceByte : List Cond := .code y_K_pieceByte prog_1_method_13_code 5 (some .int) :: w0
def k_K_revision : List Cond := .code y_K_revision prog_1_method_12_code 7 (some .int) :: w0
def k_K_spendWrites : List Cond := .code y_K_spendWrites prog_1_method_22_code 2 none :: w0
def k_K_start : List Cond := .code y_K_start prog_1_method_19_code 1 (some .boolean) :: w0
def k_K_steps : List Cond := .code y_K_steps prog_1_method_8_code 1 (some .int) :: w0
def k_K_trim : List Cond := .code y_K_trim prog_1_method_9_code 4 (some .boolean) :: w0
def k_K_verify : List Cond := .code y_K_verify prog_1_method_15_code 4 (some .int) :: w0
def k_D_init : List Cond := .code y_D_init prog_2_method_1_code 1 none :: w0
def k_D_add : List Cond := .code y_D_add prog_2_method_6_code 2 none :: w0
def k_D_canBeAsked : List Cond := .code y_D_canBeAsked prog_2_method_4_code 2 (some .boolean) :: w0
def k_D_countBlocks : List Cond := .code y_D_countBlocks prog_2_method_8_code 3 (some .int) :: w0
def k_D_cutBefore : List Cond := .code y_D_cutBefore prog_2_method_7_code 4 none :: w0
def k_D_isFull : List Cond := .code y_D_isFull prog_2_method_2_code 1 (some .boolean) :: w0
def k_D_keptAt : List Cond := .code y_D_keptAt prog_2_method_5_code 2 (some (.object "TextKeeper$Revision")) :: w0
def k_D_newest : List Cond := .code y_D_newest prog_2_method_3_code 1 (some .int) :: w0
def k_M_init : List Cond := .code y_M_init prog_3_method_1_code 1 none :: w0
def k_M_copy : List Cond := .code y_M_copy prog_3_method_7_code 4 (some .boolean) :: w0
def k_M_insert : List Cond := .code y_M_insert prog_3_method_6_code 3 (some .boolean) :: w0
def k_M_makeAgain : List Cond := .code y_M_makeAgain prog_3_method_3_code 6 (some (.object "TextKeeper$Text")) :: w0
def k_M_makeBase : List Cond := .code y_M_makeBase prog_3_method_2_code 3 (some (.object "TextKeeper$Text")) :: w0
def k_M_makeNext : List Cond := .code y_M_makeNext prog_3_method_4_code 7 (some .boolean) :: w0
def k_M_obeyCommand : List Cond := .code y_M_obeyCommand prog_3_method_5_code 3 (some .boolean) :: w0
def k_M_readNumber : List Cond := .code y_M_readNumber prog_3_method_8_code 4 (some .int) :: w0
def k_W_init : List Cond := .code y_W_init prog_4_method_1_code 1 none :: w0
def k_W_digitsOf : List Cond := .code y_W_digitsOf prog_4_method_7_code 3 (some .int) :: w0
def k_W_pieceOf : List Cond := .code y_W_pieceOf prog_4_method_2_code 3 (some (.array .byte)) :: w0
def k_W_placeOfLongest : List Cond := .code y_W_placeOfLongest prog_4_method_4_code 7 (some .int) :: w0
def k_W_writeByte : List Cond := .code y_W_writeByte prog_4_method_8_code 2 none :: w0
def k_W_writeDifferences : List Cond := .code y_W_writeDifferences prog_4_method_3_code 7 none :: w0
def k_W_writeInsert : List Cond := .code y_W_writeInsert prog_4_method_5_code 5 none :: w0
def k_W_writeNumber : List Cond := .code y_W_writeNumber prog_4_method_6_code 4 none :: w0
def k_P_init : List Cond := .code y_P_init prog_5_method_1_code 1 none :: w0
def k_P_comeBack : List Cond := .code y_P_comeBack prog_5_method_3_code 1 none :: w0
def k_P_goAfter : List Cond := .code y_P_goAfter prog_5_method_2_code 2 none :: w0
def k_P_lastsFor : List Cond := .code y_P_lastsFor prog_5_method_4_code 2 (some .boolean) :: w0
def k_V_init : List Cond := .code y_V_init prog_6_method_1_code 4 none :: w0
def k_V_hasByte : List Cond := .code y_V_hasByte prog_6_method_2_code 2 (some .boolean) :: w0
def k_T_init : List Cond := .code y_T_init prog_7_method_1_code 1 none :: w0
def k_T_addByte : List Cond := .code y_T_addByte prog_7_method_4_code 2 none :: w0
def k_T_addInt : List Cond := .code y_T_addInt prog_7_method_5_code 3 none :: w0
def k_T_become : List Cond := .code y_T_become prog_7_method_7_code 2 none :: w0
def k_T_byteAt : List Cond := .code y_T_byteAt prog_7_method_2_code 2 (some .int) :: w0
def k_T_hasRoom : List Cond := .code y_T_hasRoom prog_7_method_3_code 2 (some .boolean) :: w0
def k_T_runBackWith : List Cond := .code y_T_runBackWith prog_7_method_10_code 5 (some .int) :: w0
def k_T_runWith : List Cond := .code y_T_runWith prog_7_method_9_code 6 (some .int) :: w0
def k_T_shorten : List Cond := .code y_T_shorten prog_7_method_6_code 2 (some .boolean) :: w0
def k_T_sum : List Cond := .code y_T_sum prog_7_method_8_code 3 (some .int) :: w0
def k_L_about : List Cond := .codeWith y_L_about method_12_code 5 (some .int) [(0, 10, 13, 47), (0, 10, 17, 49), (0, 10, 21, 13)] :: w0
def k_L_commit : List Cond := .codeWith y_L_commit method_6_code 5 (some .int) [(0, 10, 13, 13)] :: w0
def k_L_common : List Cond := .codeWith y_L_common method_17_code 7 (some .int) [(0, 14, 17, 13)] :: w0
def k_L_cutAfter : List Cond := .codeWith y_L_cutAfter method_19_code 4 (some .int) [(0, 16, 19, 13)] :: w0
def k_L_damage : List Cond := .codeWith y_L_damage method_15_code 7 (some .int) [(0, 21, 24, 13)] :: w0
def k_L_dropDocument : List Cond := .codeWith y_L_dropDocument method_11_code 4 (some .int) [(0, 16, 19, 13)] :: w0
def k_L_end : List Cond := .codeWith y_L_end method_4_code 4 (some .int) [(0, 16, 19, 13)] :: w0
def k_L_feed : List Cond := .codeWith y_L_feed method_3_code 8 (some .int) [(0, 23, 26, 13)] :: w0
def k_L_fetch : List Cond := .codeWith y_L_fetch method_7_code 5 (some .int) [(0, 10, 13, 13)] :: w0
def k_L_freeBlocks : List Cond := .codeWith y_L_freeBlocks method_18_code 3 (some .int) [(0, 8, 11, 13)] :: w0
def k_L_make : List Cond := .codeWith y_L_make method_5_code 3 (some .int) [(0, 8, 11, 13)] :: w0
def k_L_out : List Cond := .codeWith y_L_out method_8_code 4 (some .int) [(0, 9, 12, 13)] :: w0
def k_L_pieceByte : List Cond := .codeWith y_L_pieceByte method_14_code 6 (some .int) [(0, 12, 15, 13)] :: w0
def k_L_revision : List Cond := .codeWith y_L_revision method_13_code 6 (some .int) [(0, 12, 15, 47), (0, 12, 19, 49), (0, 12, 23, 13)] :: w0
def k_L_steps : List Cond := .codeWith y_L_steps method_9_code 3 (some .int) [(0, 8, 11, 13)] :: w0
def k_L_trim : List Cond := .codeWith y_L_trim method_10_code 5 (some .int) [(0, 17, 20, 13)] :: w0
def k_L_verify : List Cond := .codeWith y_L_verify method_16_code 4 (some .int) [(0, 9, 12, 13)] :: w0
def k_O_init : List Cond := .code y_O_init prog_9_method_1_code 2 none :: w0
def k_O_about : List Cond := .code y_O_about prog_9_method_33_code 3 (some .int) :: w0
def k_O_again : List Cond := .code y_O_again prog_9_method_20_code 5 (some .boolean) :: w0
def k_O_begins : List Cond := .code y_O_begins prog_9_method_10_code 4 (some .int) :: w0
def k_O_blocks : List Cond := .code y_O_blocks prog_9_method_11_code 1 (some .int) :: w0
def k_O_cleans : List Cond := .code y_O_cleans prog_9_method_15_code 5 none :: w0
def k_O_command : List Cond := .code y_O_command prog_9_method_18_code 5 (some .boolean) :: w0
def k_O_commit : List Cond := .code y_O_commit prog_9_method_27_code 7 (some .int) :: w0
def k_O_common : List Cond := .code y_O_common prog_9_method_38_code 8 (some .int) :: w0
def k_O_cutAfter : List Cond := .code y_O_cutAfter prog_9_method_40_code 2 (some .boolean) :: w0
def k_O_damage : List Cond := .code y_O_damage prog_9_method_36_code 6 (some .boolean) :: w0
def k_O_drop : List Cond := .code y_O_drop prog_9_method_13_code 5 none :: w0
def k_O_dropDocument : List Cond := .code y_O_dropDocument prog_9_method_32_code 2 (some .boolean) :: w0
def k_O_end : List Cond := .code y_O_end prog_9_method_6_code 2 (some .boolean) :: w0
def k_O_feed : List Cond := .code y_O_feed prog_9_method_5_code 8 (some .boolean) :: w0
def k_O_fetch : List Cond := .code y_O_fetch prog_9_method_28_code 4 (some .int) :: w0
def k_O_free : List Cond := .code y_O_free prog_9_method_12_code 3 (some .int) :: w0
def k_O_freeBlocks : List Cond := .code y_O_freeBlocks prog_9_method_39_code 1 (some .int) :: w0
def k_O_inserts : List Cond := .code y_O_inserts prog_9_method_23_code 4 none :: w0
def k_O_isAsked : List Cond := .code y_O_isAsked prog_9_method_8_code 3 (some .boolean) :: w0
def k_O_isDocument : List Cond := .code y_O_isDocument prog_9_method_7_code 2 (some .boolean) :: w0
def k_O_isDown : List Cond := .code y_O_isDown prog_9_method_42_code 1 (some .boolean) :: w0
def k_O_isUnder : List Cond := .code y_O_isUnder prog_9_method_14_code 3 (some .boolean) :: w0
def k_O_kept : List Cond := .code y_O_kept prog_9_method_9_code 3 (some .int) :: w0
def k_O_make : List Cond := .code y_O_make prog_9_method_16_code 1 (some .int) :: w0
def k_O_makes : List Cond := .code y_O_makes prog_9_method_19_code 3 (some .boolean) :: w0
def k_O_number : List Cond := .code y_O_number prog_9_method_17_code 3 (some .boolean) :: w0
def k_O_out : List Cond := .code y_O_out prog_9_method_29_code 2 (some .int) :: w0
def k_O_pieceByte : List Cond := .code y_O_pieceByte prog_9_method_35_code 5 (some .int) :: w0
def k_O_pieces : List Cond := .code y_O_pieces prog_9_method_25_code 7 none :: w0
def k_O_put : List Cond := .code y_O_put prog_9_method_21_code 2 none :: w0
def k_O_putNumber : List Cond := .code y_O_putNumber prog_9_method_22_code 3 none :: w0
def k_O_revision : List Cond := .code y_O_revision prog_9_method_34_code 5 (some .int) :: w0
def k_O_run : List Cond := .code y_O_run prog_9_method_24_code 4 (some .int) :: w0
def k_O_runs : List Cond := .code y_O_runs prog_9_method_3_code 2 (some .boolean) :: w0
def k_O_start : List Cond := .code y_O_start prog_9_method_41_code 2 (some .boolean) :: w0
def k_O_steps : List Cond := .code y_O_steps prog_9_method_30_code 1 (some .int) :: w0
def k_O_sum : List Cond := .code y_O_sum prog_9_method_26_code 5 (some .int) :: w0
def k_O_thrown : List Cond := .code y_O_thrown prog_9_method_2_code 1 (some .int) :: w0
def k_O_trim : List Cond := .code y_O_trim prog_9_method_31_code 3 (some .boolean) :: w0
def k_O_verify : List Cond := .code y_O_verify prog_9_method_37_code 3 (some .int) :: w0
def k_O_writes : List Cond := .code y_O_writes prog_9_method_4_code 2 (some .boolean) :: w0
def k_I_bitCount : List Cond := .code y_I_bitCount prog_14_method_49_code 1 (some .int) :: w0
def k_A_copyOf : List Cond := .code y_A_copyOf prog_19_method_121_code 3 (some (.array .byte)) :: w0
end
section
/-! Own rows beside the kit's: premises and ends of contracts in one word, calls of methods that read only, calls of static methods with an exception table, methods that throw, and their calls. -/
/-- the words of nest mates, of arrays of references: they are no words of the tables' kind, so a contract carries them -/
def nw_ok (U : State) : Prop := (∀ w ∈ nw0, va_Nw w U) ∧ ∀ C ∈ ao0, va_AO C U
def pc_R (D : va_G) (ws : va_W) (tys : List (ClassId × FieldType)) : State → Prop := fun U => va_P D vwCl ws U.heap ∧ va_K D vwCl tys U ∧ nw_ok U
def pc_E (D : va_G) (ws : va_W) (tys : List (ClassId × FieldType)) (sz : Nat) : State → Prop := fun U => U.heap.size = sz ∧ va_P D vwCl ws U.heap ∧ va_K D vwCl tys U ∧ va_D (fun _ => True) ws ∧ nw_ok U
def at_E (D : va_G) (A : Nat → Prop) (ws : va_W) (tys : List (ClassId × FieldType)) (t : State) : Prop := va_P D vwCl ws t.heap ∧ va_K D vwCl tys t ∧ va_D A ws
theorem nw_ok.warm {s U : State} (hW : s.WarmedH U.vm) (h : nw_ok s) : nw_ok U := by
  refine ⟨fun w hw => ?_, fun C hC => ?_⟩
  · have h1 := h.1 w hw
    have h2 := nw0_kind w hw
    cases w <;> first | exact va_Nw.warmF hW h1 | exact va_Nw.warmM hW h1 | exact va_Nw.warmD hW h1 | exact va_Nw.warmC hW h1 | (simp [nw_kind] at h2; done)
  · exact va_AO.moved hW.alike (h.2 C hC)
theorem nw_ok.same {s U : State} (hW : s.vm = U.vm) (h : nw_ok s) : nw_ok U :=
  ⟨fun w hw => va_Nw.same (nw0_tab w hw) hW (h.1 w hw), fun C hC => va_AO.moved (by rw [hW]; exact Vm.Alike.refl _) (h.2 C hC)⟩
section PRE
variable {s : State} {H : Heap} {C : String} {b : Addr} {As : List Value} {D : va_G} {ws : va_W} {tys : List (ClassId × FieldType)}
theorem prV_R (hP : va_P D vwCl ws H) (hK : va_K D vwCl tys s) (hN : nw_ok s) (hrec : ∃ cell : Cell, H[b]? = some cell ∧ cell.vm.isStatics = false ∧ s.vm.findClass C = some cell.cls) : PreV s H C b (va_Pc (.ref b :: As) (pc_R D ws tys)) As :=
  ⟨fun a U g mk q => ⟨q.1, q.2.1, va_K.moved (u := U) (U := U.calling g mk a) (Vm.Alike.refl U.vm) q.2.2.1, nw_ok.same (s := U) (U := U.calling g mk a) rfl q.2.2.2⟩, hrec, fun U hU hW => ⟨rfl, by rw [hU]; exact hP, va_K.moved hW.alike hK, hN.warm hW⟩⟩
theorem prS_R (hP : va_P D vwCl ws H) (hK : va_K D vwCl tys s) (hN : nw_ok s) : PreS s H (va_Pc As (pc_R D ws tys)) As :=
  ⟨fun a U g mk q => ⟨q.1, q.2.1, va_K.moved (u := U) (U := U.calling g mk a) (Vm.Alike.refl U.vm) q.2.2.1, nw_ok.same (s := U) (U := U.calling g mk a) rfl q.2.2.2⟩, fun U hU hW => ⟨rfl, by rw [hU]; exact hP, va_K.moved hW.alike hK, hN.warm hW⟩⟩
theorem prV_E {A : Nat → Prop} (hP : va_P D vwCl ws H) (hK : va_K D vwCl tys s) (hD : va_D A ws) (hN : nw_ok s) (hrec : ∃ cell : Cell, H[b]? = some cell ∧ cell.vm.isStatics = false ∧ s.vm.findClass C = some cell.cls) : PreV s H C b (va_Pc (.ref b :: As) (pc_E D ws tys H.size)) As :=
  ⟨fun a U g mk q => ⟨q.1, q.2.1, q.2.2.1, va_K.moved (u := U) (U := U.calling g mk a) (Vm.Alike.refl U.vm) q.2.2.2.1, q.2.2.2.2.1, nw_ok.same (s := U) (U := U.calling g mk a) rfl q.2.2.2.2.2⟩, hrec, fun U hU hW => ⟨rfl, by rw [hU], by rw [hU]; exact hP, va_K.moved hW.alike hK, hD.weaken (fun _ _ _ _ => trivial), hN.warm hW⟩⟩
theorem prS_E {A : Nat → Prop} (hP : va_P D vwCl ws H) (hK : va_K D vwCl tys s) (hD : va_D A ws) (hN : nw_ok s) : PreS s H (va_Pc As (pc_E D ws tys H.size)) As :=
  ⟨fun a U g mk q => ⟨q.1, q.2.1, q.2.2.1, va_K.moved (u := U) (U := U.calling g mk a) (Vm.Alike.refl U.vm) q.2.2.2.1, q.2.2.2.2.1, nw_ok.same (s := U) (U := U.calling g mk a) rfl q.2.2.2.2.2⟩, fun U hU hW => ⟨rfl, by rw [hU], by rw [hU]; exact hP, va_K.moved hW.alike hK, hD.weaken (fun _ _ _ _ => trivial), hN.warm hW⟩⟩
end PRE
section GD
theorem gd_ok {w : Cond} (h : w ∈ w0) : (w.onTables && w.keeps) = true ∨ ∃ ty, w = .arrayClass ty := (w0_good w h)
theorem gd_w0 : GoodIn w0 w0 := fun w h => ⟨h, gd_ok h⟩
theorem gd_I {y : MethodName} {cd : ByteArray} {mL : Nat} {rt : Option FieldType} (i : Nat) (h : w0[i]? = some (.code y cd mL rt)) : GoodIn w0 (.code y cd mL rt :: w0) := by
  intro w hw
  rcases List.mem_cons.mp hw with rfl | hw
  · exact ⟨List.mem_of_getElem? h, gd_ok (List.mem_of_getElem? h)⟩
  · exact ⟨hw, gd_ok hw⟩
theorem gd_V {own C : String} {idx : Nat} {y : MethodName} {cd : ByteArray} {mL : Nat} {rt : Option FieldType} (i1 i2 i3 i4 i5 : Nat) (h1 : w0[i1]? = some (.methodLink own idx y)) (h2 : w0[i2]? = some (.instanceMethod y)) (h3 : w0[i3]? = some (.selects C y y)) (h4 : w0[i4]? = some (.initialized C)) (h5 : w0[i5]? = some (.code y cd mL rt)) : GoodIn w0 (wsV own idx C y (.code y cd mL rt :: w0)) := by
  intro w hw
  unfold wsV at hw
  rcases List.mem_append.mp hw with hw | hw
  · have hm : w ∈ w0 := by
      simp only [List.mem_cons, List.not_mem_nil, or_false] at hw
      rcases hw with rfl | rfl | rfl | rfl
      · exact List.mem_of_getElem? h1
      · exact List.mem_of_getElem? h2
      · exact List.mem_of_getElem? h3
      · exact List.mem_of_getElem? h4
    exact ⟨hm, gd_ok hm⟩
  · exact gd_I i5 h5 w hw
end GD
section PS
variable {p : Program} {l : Launch} {e : Env} {R : Room} {s : State} {m : MethodId} {args : Array Value} {below : List Frame} {meth : Method} {c : Code} {H : Heap} {locs : List Loc} {cells slots : Nat} {Q : State → Prop}
variable {pc : Nat} {ls : Array Slot} {rest st0 : List Value} {a : Array Value}
theorem ps_i {post : Int32 → Prop} (hr : va_Run p l e R s m args below meth c H locs cells slots 0 0 (F0 m pc ls st0) rest (vp_Si post a) (fun _ => False)) (kk : ∀ r : Int32, post r → W p l e R s m args below meth c H locs cells slots Q (F0 m (pc + 3) ls (.int r :: rest))) : W p l e R s m args below meth c H locs cells slots Q (F0 m pc ls st0) := by
  intro T hT X
  obtain ⟨v, st₀, t, T', L, h0, X', hL, e1, -, ⟨r, hv, hp, hh⟩, st⟩ := hr T hT X
  cases hv
  obtain ⟨t2, a1, b1⟩ := kk r hp T' (by rw [e1, hh, h0]) (Stand.forget X' (fun q h => (hL q h).elim))
  exact ⟨t2, st t2 a1, b1⟩
theorem ps_q {post : Option Nat → Prop} (hr : va_Run p l e R s m args below meth c H locs cells slots 0 0 (F0 m pc ls st0) rest (va_Sq post a) (fun _ => False)) (kk : ∀ r : Option Nat, post r → W p l e R s m args below meth c H locs cells slots Q (F0 m (pc + 3) ls (va_rf r :: rest))) : W p l e R s m args below meth c H locs cells slots Q (F0 m pc ls st0) := by
  intro T hT X
  obtain ⟨v, st₀, t, T', L, h0, X', hL, e1, -, ⟨r, hv, hp, hh⟩, st⟩ := hr T hT X
  cases hv
  obtain ⟨t2, a1, b1⟩ := kk r hp T' (by rw [e1, hh, h0]) (Stand.forget X' (fun q h => (hL q h).elim))
  exact ⟨t2, st t2 a1, b1⟩
theorem ps_v {post : Unit → Prop} (hr : va_Run p l e R s m args below meth c H locs cells slots 0 0 (F0 m pc ls st0) rest (va_Sv post a) (fun _ => False)) (kk : W p l e R s m args below meth c H locs cells slots Q (F0 m (pc + 3) ls rest)) : W p l e R s m args below meth c H locs cells slots Q (F0 m pc ls st0) := by
  intro T hT X
  obtain ⟨v, st₀, t, T', L, h0, X', hL, e1, -, ⟨hv, hp, hh⟩, st⟩ := hr T hT X
  cases hv
  obtain ⟨t2, a1, b1⟩ := kk T' (by rw [e1, hh, h0]) (Stand.forget X' (fun q h => (hL q h).elim))
  exact ⟨t2, st t2 a1, b1⟩
end PS
/-! numbers -/
theorem x_nn {i : Int32} (h : ¬ i < 0) (h2 : ¬ (0 : Int32) ≤ i) : False := h2 (Int32.not_lt.mp h)
theorem x_in {x N : Int32} {n : Nat} (hN : N.toInt = n) (h1 : ¬ x < 0) (h2 : ¬ N ≤ x) : vp_in x n := by
  rw [vp_in_iff]
  have a := Int32.not_lt.mp h1
  have b := Int32.not_le.mp h2
  rw [Int32.le_iff_toInt_le] at a
  rw [Int32.lt_iff_toInt_lt] at b
  have z : (0 : Int32).toInt = 0 := by decide
  omega
theorem x_m1 {i : Int32} (h : ¬ i < 0) (h2 : ¬ (-1 : Int32) ≤ i) : False := by
  have a := Int32.not_lt.mp h
  rw [Int32.le_iff_toInt_le] at a h2
  have z : (0 : Int32).toInt = 0 := by decide
  have z1 : (-1 : Int32).toInt = -1 := by decide
  omega
theorem x_lt256 {k : Nat} (h : ¬ (256 : Int32) ≤ nI k) (hk : k ≤ 256) : k < 256 := by
  rcases Nat.lt_or_ge k 256 with q | q
  · exact q
  · exact absurd (show nI 256 ≤ nI k from nI_le q (by omega)) h
theorem x_geN {j N : Nat} (hN : N < 2 ^ 31) (hj : j ≤ N) (h : nI N ≤ nI j) : j = N := by
  have := (nI_leI hN (by omega)).mp h
  omega
theorem x_ltN {j N : Nat} (hN : N < 2 ^ 31) (hj : j ≤ N) (h : ¬ nI N ≤ nI j) : j < N := by
  rcases Nat.lt_or_ge j N with q | q
  · exact q
  · exact absurd (nI_le q (by omega)) h
section SW
abbrev CSW (R : Room) (s : State) (args : Array Value) (own : String) (index : Nat) (y : MethodName) (bytes : ByteArray) (maxL : Nat) (ret : Option FieldType) (hh : List (Nat × Nat × Nat × Nat)) (ws : List Cond) (rm : Room) (mc ms n : Nat) : Prop :=
  (rm.cells = mc ∧ rm.slots = ms ∧ rm.frames + 1 ≤ R.frames ∧ 8 + (maxL + 11) + rm.locals ≤ R.locals ∧ (∀ w ∈ ws, ∀ (a' : Array Value) (U : State), s.WarmedH U.vm → w.before a' U = true) ∧ Cond.codeWith y bytes maxL ret hh ∈ ws) ∧
  (Cond.codeWith y bytes maxL ret hh).before args s = true ∧ (Cond.initialized y.cls).before args s = true ∧ (y.cls ≠ "java/lang/invoke/MethodHandle" ∧ y.cls ≠ "java/lang/invoke/VarHandle") ∧ (∀ sig, parseMethodDescriptor y.desc = some sig → n = sig.parameters.length) ∧ (Cond.methodLink own index y).before args s = true ∧ (Cond.static y).before args s = true
theorem gd_W {y : MethodName} {cd : ByteArray} {mL : Nat} {rt : Option FieldType} {hh : List (Nat × Nat × Nat × Nat)} (i : Nat) (h : w0[i]? = some (.codeWith y cd mL rt hh)) : GoodIn w0 (.codeWith y cd mL rt hh :: w0) := by
  intro w hw
  rcases List.mem_cons.mp hw with rfl | hw
  · exact ⟨List.mem_of_getElem? h, gd_ok (List.mem_of_getElem? h)⟩
  · exact ⟨hw, gd_ok hw⟩
theorem csw_of {R : Room} {s : State} {args : Array Value} {own : String} {index maxL mc ms : Nat} {y : MethodName} {bytes : ByteArray} {ret : Option FieldType} {hh : List (Nat × Nat × Nat × Nat)} {rm : Room} (n : Nat) (ht : ∀ w ∈ w0, w.before args s = true) (i1 i2 i3 i4 : Nat) (h1 : w0[i1]? = some (.codeWith y bytes maxL ret hh)) (h2 : w0[i2]? = some (.methodLink own index y)) (h3 : w0[i3]? = some (.static y)) (h4 : w0[i4]? = some (.initialized y.cls)) (hrc : rm.cells = mc) (hrs : rm.slots = ms)
    (hd : y.cls ≠ "java/lang/invoke/MethodHandle" ∧ y.cls ≠ "java/lang/invoke/VarHandle" ∧ (parseMethodDescriptor y.desc).map (fun d => d.parameters.length) = some n) (hR : rm.frames + 1 ≤ R.frames ∧ 8 + (maxL + 11) + rm.locals ≤ R.locals) : CSW R s args own index y bytes maxL ret hh (.codeWith y bytes maxL ret hh :: w0) rm mc ms n := by
  refine ⟨⟨hrc, hrs, hR.1, hR.2, pay_in ht (gd_W i1 h1), List.mem_cons_self⟩, ht _ (List.mem_of_getElem? h1), ht _ (List.mem_of_getElem? h4), ⟨hd.1, hd.2.1⟩, fun sig h => ?_, ht _ (List.mem_of_getElem? h2), ht _ (List.mem_of_getElem? h3)⟩
  have h2 := hd.2.2
  rw [h] at h2
  exact (Option.some.inj h2).symm
variable {p : Program} {l : Launch} {e : Env} {R : Room} {s : State} {m : MethodId} {args : Array Value} {below : List Frame} {meth : Method} {c : Code} {H : Heap} {locs : List Loc} {cells slots : Nat}
theorem va_runSW {y : MethodName} {bytes cc : ByteArray} {maxL nL mc ms n index : Nat} {ret : Option FieldType} {hh : List (Nat × Nat × Nat × Nat)} {ws : List Cond} {rm : Room} {Pc : Array Value → State → Prop} {Qc : Array Value → State → Outcome → State → Prop} {free : Addr → Prop} {Ts : List Cond} {own : String} {As rest : List Value} {g : JFrame}
    (S : CallFix p m c cc nL s args Ts own) (hM : Met l y ws rm Pc Qc mc ms free) (cw : CSW R s args own index y bytes maxL ret hh ws rm mc ms n) (hp : PreS s H Pc As)
    (hg : g.method = m) (hn : As.length = n) (hsize : g.locals.size = nL) (hstack : g.stack = As.reverse ++ rest) (hW : 2 * g.monitorRoom + (rest.map fun v => v.category).sum ≤ 8) (hdg : decode cc g.pc = .ok (.invokestatic index, 3)) (hf : cells + mc ≤ R.cells ∧ slots + ms ≤ R.slots) :
    va_Run p l e R s m args below meth c H locs cells slots mc ms g rest (Qc As.toArray) (free) := by
  obtain ⟨⟨hrc, hrs, hfr, hlo, hws, hcw⟩, hcode, hini, hy, hlen, hl, hst⟩ := cw
  have hK : Back l R p e below s args y 3 8 (PreOf R mc ms Pc) (PostOf Qc mc ms free) := va_backW (hh := hh) (bytes := bytes) (maxL := maxL) (ret := ret) hM hp.1 hrc hrs hfr hlo hws hcw (fun a' U hW => word_at hW (Or.inl (by first | rfl | simp [Cond.onTables, Cond.keeps, Cond.steady])) hini)
  obtain ⟨hx, hb, hml, ho, -⟩ := S
  intro T hT X
  obtain ⟨mk, methM, cM, hnamed, hmethM, -, -, -, -, -, -, hsigM⟩ := Cond.codeWith_spec hcode
  have hstatic : methM.isStatic = true := Cond.static_spec hnamed hmethM hst
  obtain ⟨kP, hkP, -⟩ := className_of_methodNamed hnamed
  have hinitP : kP.init = .initialized := Cond.initialized_spec (findClass_of_methodNamed hnamed) hkP hini
  obtain ⟨vm₁, X₁, hstep₁⟩ := X.invokestatic hx ho hl hnamed hmethM hstatic hkP hinitP hy (g := g) hg (argsL := As) (rest := rest) (hn.trans (hlen _ hsigM)) hstack (by rw [hb]; exact hdg)
  obtain ⟨v, ⟨U', l2, c2, s2⟩, X', hpost, hsteps⟩ := hK m meth c ⟨T.setVm vm₁, locs, cells, slots⟩ { g with stack := rest } (.invokestatic index) mk As.toArray X₁ hg (hsize.trans hml.symm) (by rw [hb]; exact hdg) hW (X₁.named hnamed) ⟨hf.1, hf.2, hp.2 (T.setVm vm₁) hT X₁.warmed⟩
  obtain ⟨g', mk', t, L, e1, e2, hq, h1, hL, h2, h3⟩ := hpost
  dsimp only [Pt.U, Pt.locs, Pt.cells, Pt.slots] at X' e1 e2 h1 h2 h3 hsteps
  subst h1; subst h2; subst h3
  exact ⟨v, (T.setVm vm₁).calling g' mk' As.toArray, t, U', L, hT, X', hL, e1, e2, hq, fun target h => hstep₁ _ fun acts => by rw [doInvoke_state]; exact hsteps.trans h⟩
end SW
theorem x_fill {g : Nat → Int32} {j : Nat} (hj : j < 512) (h : ∀ i, i < j → g i = (-1)) : ∀ i, i < j + 1 → upd g (Int32.toNatClampNeg (nI j)) (vp_nar .short (-1)) i = (-1) := by
  intro i hi
  rw [nI_clamp (by omega)]
  by_cases e : i = j
  · subst e; rw [pk_us]; decide
  · rw [pk_un e]; exact h i (by omega)
theorem x_up0 {f : Nat → Int64} {x : Int64} : vp_updL f (Int32.toNatClampNeg 0) x 0 = x := by
  rw [sb_cl0]; exact if_pos rfl
theorem x_L6 {L : Nat} (hL : L ≤ 6) (h : ¬ (Int32.ofNat L - 6 : Int32) < 0) : L = 6 := by
  have q : ∀ L, L < 7 → ¬ (Int32.ofNat L - 6 : Int32) < 0 → L = 6 := by decide +kernel
  exact q L (by omega) h
theorem va_S.grow {A : Nat → Prop} {H0 H H1 : Heap} {locs : List Loc} (h : va_S A H0 H locs) (hz : H.size ≤ H1.size) (hk : ∀ q : Nat, q < H.size → H1[q]? = H[q]?) : va_S A H0 H1 locs :=
  ⟨Nat.le_trans h.1 hz, fun q h1 h2 => (hk q (Nat.lt_of_lt_of_le h1 h.1)).trans (h.2.1 q h1 h2), h.2.2⟩
end
section
/-! the mathematical values: bytes as they are stored, texts as lists of them -/
def nbb (x : Int32) : Int32 := x.toInt8.toInt32
def isB (x : Int32) : Prop := nbb x = x
theorem nbb_B (x : Int32) : isB (nbb x) := by
  unfold isB nbb
  exact pk_vb x
def bI (b : Bool) : Int32 := if b then 1 else 0
def tx (L : List Int32) (k : Nat) (f : Nat → Int32) : Prop := L.length = k ∧ (∀ j, j < k → f j = L.getD j 0) ∧ ∀ b ∈ L, isB b
theorem tx_nil (f : Nat → Int32) : tx [] 0 f := ⟨rfl, fun _ h => absurd h (Nat.not_lt_zero _), fun _ h => by cases h⟩
theorem tx_push {L : List Int32} {k : Nat} {f : Nat → Int32} {b : Int32} (h : tx L k f) (hb : isB b) : tx (L ++ [b]) (k + 1) (upd f k b) := by
  obtain ⟨h1, h2, h3⟩ := h
  refine ⟨by simp [h1], fun j hj => ?_, fun c hc => ?_⟩
  · by_cases e : j = k
    · subst e
      rw [pk_us]
      simp [List.getD, List.getElem?_append_right, h1]
    · rw [pk_un e, h2 j (by omega)]
      simp [List.getD, List.getElem?_append_left (show j < L.length by omega)]
  · rcases List.mem_append.mp hc with hc | hc
    · exact h3 c hc
    · rcases List.mem_singleton.mp hc with rfl
      exact hb
theorem tx_take {L : List Int32} {k n : Nat} {f : Nat → Int32} (h : tx L k f) (hn : n ≤ k) : tx (L.take n) n f := by
  obtain ⟨h1, h2, h3⟩ := h
  refine ⟨by simp [h1]; omega, fun j hj => ?_, fun c hc => h3 c (List.mem_of_mem_take hc)⟩
  rw [h2 j (by omega)]
  simp [List.getD, List.getElem?_take, hj]
theorem tx_cpy {L : List Int32} {k : Nat} {f g : Nat → Int32} (h : tx L k f) : tx L k (va_cpy f g 0 0 k) := by
  refine ⟨h.1, fun j hj => ?_, h.2.2⟩
  rw [pk_cpy_in (Nat.zero_le j) (by omega)]
  simpa using h.2.1 j hj
theorem tx_eq {L : List Int32} {k : Nat} {f g : Nat → Int32} (h : tx L k f) (e : ∀ j, j < k → g j = f j) : tx L k g := ⟨h.1, fun j hj => (e j hj).trans (h.2.1 j hj), h.2.2⟩
theorem tx_at {L : List Int32} {k : Nat} {f : Nat → Int32} (h : tx L k f) {j : Nat} (hj : j < k) : f j = L.getD j 0 := h.2.1 j hj
theorem tx_inB {L : List Int32} {k : Nat} {f : Nat → Int32} (h : tx L k f) {j : Nat} (hj : j < k) : isB (f j) := by
  rw [h.2.1 j hj]
  have : j < L.length := by rw [h.1]; exact hj
  apply h.2.2
  simp [List.getD, List.getElem?_eq_getElem this]
/-- a text's sum -/
def sumL (L : List Int32) : Int32 := L.foldl (fun s b => s * 31 + (b &&& 255) + 1) 0
theorem sumL_snoc (L : List Int32) (b : Int32) : sumL (L ++ [b]) = sumL L * 31 + (b &&& 255) + 1 := by
  simp [sumL, List.foldl_append]
theorem take_snoc {L : List Int32} {i : Nat} (h : i < L.length) : L.take (i + 1) = L.take i ++ [L.getD i 0] := by
  rw [List.take_succ]
  simp [List.getD, List.getElem?_eq_getElem h]
theorem sumL_take {L : List Int32} {i : Nat} (h : i < L.length) : sumL (L.take (i + 1)) = sumL (L.take i) * 31 + (L.getD i 0 &&& 255) + 1 := by
  rw [take_snoc h, sumL_snoc]
/-- how many bytes two lists have in common at their heads -/
def cpl : List Int32 → List Int32 → Nat
  | a :: x, b :: y => if a = b then cpl x y + 1 else 0
  | _, _ => 0
theorem cpl_ge : ∀ (n : Nat) (x y : List Int32), n ≤ x.length → n ≤ y.length → (∀ t, t < n → x.getD t 0 = y.getD t 0) → n ≤ cpl x y
  | 0, _, _, _, _, _ => Nat.zero_le _
  | n + 1, [], _, h, _, _ => absurd h (by simp)
  | n + 1, _ :: _, [], _, h, _ => absurd h (by simp)
  | n + 1, a :: x, b :: y, h1, h2, h3 => by
    have e : a = b := by simpa using h3 0 (Nat.succ_pos n)
    have := cpl_ge n x y (by simpa using h1) (by simpa using h2) (fun t ht => by simpa using h3 (t + 1) (by omega))
    simp only [cpl, e, if_true]
    omega
theorem cpl_le1 : ∀ (x y : List Int32), cpl x y ≤ x.length
  | [], _ => by simp [cpl]
  | _ :: _, [] => by simp [cpl]
  | a :: x, b :: y => by
    have := cpl_le1 x y
    simp only [cpl, List.length_cons]
    split <;> omega
theorem cpl_le2 : ∀ (x y : List Int32), cpl x y ≤ y.length
  | [], _ => by simp [cpl]
  | _ :: _, [] => by simp [cpl]
  | a :: x, b :: y => by
    have := cpl_le2 x y
    simp only [cpl, List.length_cons]
    split <;> omega
theorem cpl_eq : ∀ (x y : List Int32) (t : Nat), t < cpl x y → x.getD t 0 = y.getD t 0
  | [], _, _, h => absurd h (by simp [cpl])
  | _ :: _, [], _, h => absurd h (by simp [cpl])
  | a :: x, b :: y, t, h => by
    simp only [cpl] at h
    split at h
    · rename_i e
      match t with
      | 0 => simpa using e
      | t + 1 => simpa using cpl_eq x y t (by omega)
    · exact absurd h (Nat.not_lt_zero _)
/-- n is it, where it ends: all ahead are equal, and an end or a difference is there -/
theorem cpl_is {x y : List Int32} {n : Nat} (h1 : n ≤ x.length) (h2 : n ≤ y.length) (h3 : ∀ t, t < n → x.getD t 0 = y.getD t 0) (h4 : n = x.length ∨ n = y.length ∨ x.getD n 0 ≠ y.getD n 0) : cpl x y = n := by
  have a := cpl_ge n x y h1 h2 h3
  have b := cpl_le1 x y
  have c := cpl_le2 x y
  rcases Nat.lt_or_ge n (cpl x y) with q | q
  · exfalso
    rcases h4 with h4 | h4 | h4
    · omega
    · omega
    · exact h4 (cpl_eq x y n q)
  · omega
theorem getD_drop (L : List Int32) (i t : Nat) : (L.drop i).getD t 0 = L.getD (i + t) 0 := by
  simp [List.getD, List.getElem?_drop]
/-- the byte that fed lays for an int: the q-th from above -/
def fb (v : Int32) (q : Nat) : Int32 := nbb (v >>> (nI (24 - 8 * q) &&& 31))
def fb4 (v : Int32) : List Int32 := [fb v 0, fb v 1, fb v 2, fb v 3]
/-- the byte at a place, or none -/
def bAt (L : List Int32) (i : Int32) : Int32 := if i < 0 ∨ nI L.length ≤ i then (-1) else L.getD i.toNatClampNeg 0 &&& 255
theorem x_ltK {x : Int32} {k : Nat} (h1 : ¬ x < 0) (h2 : ¬ nI k ≤ x) : x.toNatClampNeg < k := by
  obtain ⟨j, hj, rfl⟩ := nI_of h1
  rw [nI_clamp hj]
  rcases Nat.lt_or_ge j k with q | q
  · exact q
  · exact absurd (nI_le q hj) h2
theorem x_inK {x : Int32} {k n : Nat} (hk : k ≤ n) (hn : n < 2 ^ 31) (h1 : ¬ x < 0) (h2 : ¬ nI k ≤ x) : vp_in x n := by
  obtain ⟨j, hj, rfl⟩ := nI_of h1
  have := x_ltK h1 h2
  rw [nI_clamp hj] at this
  exact vp_in_nI (by omega) hn
theorem x_min {a b : Nat} (ha : a < 2 ^ 31) (hb : b < 2 ^ 31) : (if nI b < nI a then nI b else nI a) = nI (min a b) := by
  by_cases h : b < a
  · rw [if_pos ((nI_ltI hb ha).mpr h), Nat.min_eq_right (by omega)]
  · rw [if_neg (fun q => h ((nI_ltI hb ha).mp q)), Nat.min_eq_left (by omega)]
theorem fits_B {b : Int32} (h : isB b) : fits .byte (.int b) = true := by
  rw [← h]
  exact pk_fb b
end
section
theorem gd_S {own : String} {idx : Nat} {y : MethodName} {cd : ByteArray} {mL : Nat} {rt : Option FieldType} (i1 i2 i3 i4 : Nat) (h1 : w0[i1]? = some (.methodLink own idx y)) (h2 : w0[i2]? = some (.static y)) (h3 : w0[i3]? = some (.initialized y.cls)) (h4 : w0[i4]? = some (.code y cd mL rt)) : GoodIn w0 (va_wsS own idx y (.code y cd mL rt :: w0)) := by
  intro w hw
  unfold va_wsS at hw
  rcases List.mem_append.mp hw with hw | hw
  · have hm : w ∈ w0 := by
      simp only [List.mem_cons, List.not_mem_nil, or_false] at hw
      rcases hw with rfl | rfl | rfl
      · exact List.mem_of_getElem? h1
      · exact List.mem_of_getElem? h2
      · exact List.mem_of_getElem? h3
    exact ⟨hm, gd_ok hm⟩
  · exact gd_I i4 h4 w hw
def dgt (n : Nat) : Nat := if n < 128 then 1 else 2
def encN (n : Nat) : List Int32 := if n < 128 then [nbb (nI n)] else [nbb (nI (n % 128 + 128)), nbb (nI (n / 128))]
theorem encN_len (n : Nat) : (encN n).length = dgt n := by
  unfold encN dgt
  split <;> rfl
theorem dgt_le (n : Nat) : 1 ≤ dgt n ∧ dgt n ≤ 2 := by
  unfold dgt
  split <;> omega
theorem encN_B (n : Nat) : ∀ b ∈ encN n, isB b := by
  intro b hb
  unfold encN at hb
  split at hb
  · rcases List.mem_singleton.mp hb with rfl; exact nbb_B _
  · simp only [List.mem_cons, List.not_mem_nil, or_false] at hb
    rcases hb with rfl | rfl <;> exact nbb_B _
def insE (L : List Int32) (a b : Nat) : List Int32 := if a < b then encN (2 * (b - a)) ++ (L.drop a).take (b - a) else []
theorem nbb_and (b : Int32) : nbb (b &&& 255) = nbb b := by
  unfold nbb
  congr 1
  apply Int8.toBitVec_inj.mp
  simp
  exact BitVec.and_allOnes
theorem x_dg {n : Nat} {x : Int32} (e : x = nI (dgt n) + (-1)) : x ≤ 1 := by
  rw [e]
  unfold dgt
  split <;> decide
theorem x_en1 {n q : Nat} {P : List Int32} {g : Nat → Int32} (c : nI (dgt n) ≤ 1) (h : tx (P ++ [nbb (nI n)]) (q + 1) g) : q + 1 = q + dgt n ∧ tx (P ++ encN n) (q + 1) g := by
  have h1 : n < 128 := by
    rcases Nat.lt_or_ge n 128 with z | z
    · exact z
    · rw [dgt, if_neg (by omega)] at c
      exact absurd c (by decide)
  rw [dgt, encN, if_pos h1, if_pos h1]
  exact ⟨rfl, h⟩
theorem x_en2 {n q : Nat} {P : List Int32} {g : Nat → Int32} (c : ¬ nI (dgt n) ≤ 1) (h : tx (P ++ [nbb (nI (n % 128 + 128))] ++ [nbb (nI (n / 128))]) (q + 1 + 1) g) : q + 1 + 1 = q + dgt n ∧ tx (P ++ encN n) (q + 1 + 1) g := by
  have h1 : ¬ n < 128 := by
    intro z
    rw [dgt, if_pos z] at c
    exact c (by decide)
  rw [dgt, encN, if_neg h1, if_neg h1]
  refine ⟨rfl, ?_⟩
  simpa using h
theorem nbb_at {L : List Int32} {k : Nat} {f : Nat → Int32} (h : tx L k f) {j : Nat} (hj : j < k) (h31 : j < 2 ^ 31) (hk : k < 2 ^ 31) : nbb (bAt L (nI j)) = L.getD j 0 := by
  rw [bAt, if_neg, nI_clamp h31, nbb_and]
  · have := tx_inB h hj
    rw [tx_at h hj] at this
    exact this
  · rw [h.1]
    intro q
    rcases q with q | q
    · exact nI_pos h31 q
    · exact nI_ge hj hk q
theorem take_drop_snoc {L : List Int32} {a j : Nat} (ha : a ≤ j) (hj : j < L.length) : (L.drop a).take (j + 1 - a) = (L.drop a).take (j - a) ++ [L.getD j 0] := by
  have e : j + 1 - a = (j - a) + 1 := by omega
  rw [e, take_snoc (by rw [List.length_drop]; omega), getD_drop]
  congr 3
  omega
theorem x_ins {L P : List Int32} {k a j q : Nat} {f g : Nat → Int32} (h : tx L k f) (hk : k ≤ 256) (ha : a ≤ j) (hj : j < k) (hu : tx (P ++ (L.drop a).take (j - a) ++ [nbb (bAt L (nI j))]) q g) : tx (P ++ (L.drop a).take (j + 1 - a)) q g := by
  rw [nbb_at h hj (by omega) (by omega)] at hu
  rw [take_drop_snoc ha (by rw [h.1]; exact hj), ← List.append_assoc]
  exact hu
theorem x_insF {L P : List Int32} {a b q : Nat} {g : Nat → Int32} (c : ¬ nI a < nI b) (ha : a < 2 ^ 31) (hb : b < 2 ^ 31) (h : tx P q g) : q = q + (insE L a b).length ∧ tx (P ++ insE L a b) q g := by
  have h1 : ¬ a < b := fun z => c ((nI_ltI ha hb).mpr z)
  rw [insE, if_neg h1, List.append_nil]
  exact ⟨rfl, h⟩
theorem x_insT {L P : List Int32} {a b q q2 : Nat} {g : Nat → Int32} (hab : a < b) (hb : b ≤ L.length) (e : q2 = q + dgt (2 * (b - a))) (h : tx ((P ++ encN (2 * (b - a))) ++ (L.drop a).take (b - a)) (q2 + (b - a)) g) : q2 + (b - a) = q + (insE L a b).length ∧ tx (P ++ insE L a b) (q2 + (b - a)) g := by
  rw [insE, if_pos hab]
  constructor
  · rw [List.length_append, encN_len, List.length_take, List.length_drop, Nat.min_eq_left (by omega)]
    omega
  · rw [← List.append_assoc]
    exact h
def bst (L : List Int32) (i : Nat) (M : List Int32) : Nat → Nat × Nat
  | 0 => (0, 0)
  | j + 1 => if (bst L i M j).1 < cpl (L.drop i) (M.drop j) then (cpl (L.drop i) (M.drop j), j) else bst L i M j
theorem bst_gt {L M : List Int32} {i j : Nat} (h : ¬ cpl (L.drop i) (M.drop j) ≤ (bst L i M j).1) : bst L i M (j + 1) = (cpl (L.drop i) (M.drop j), j) := by
  rw [bst, if_pos (by omega)]
theorem bst_le {L M : List Int32} {i j : Nat} (h : cpl (L.drop i) (M.drop j) ≤ (bst L i M j).1) : bst L i M (j + 1) = bst L i M j := by
  rw [bst, if_neg (by omega)]
theorem bst_le1 (L : List Int32) (i : Nat) (M : List Int32) : ∀ j, (bst L i M j).1 ≤ L.length - i
  | 0 => by simp [bst]
  | j + 1 => by
    have h1 := bst_le1 L i M j
    have h2 := cpl_le1 (L.drop i) (M.drop j)
    rw [List.length_drop] at h2
    rw [bst]
    split
    · exact h2
    · exact h1
theorem bst_lt (L : List Int32) (i : Nat) (M : List Int32) : ∀ j, (bst L i M j).2 ≤ j ∧ (0 < (bst L i M j).1 → (bst L i M j).2 < j)
  | 0 => by simp [bst]
  | j + 1 => by
    have h1 := bst_lt L i M j
    rw [bst]
    split
    · exact ⟨Nat.le_succ j, fun _ => Nat.lt_succ_self j⟩
    · exact ⟨by omega, fun z => by have := h1.2 z; omega⟩
theorem bst_ge (L : List Int32) (i : Nat) (M : List Int32) : ∀ j t, t < j → cpl (L.drop i) (M.drop t) ≤ (bst L i M j).1
  | 0, t, h => absurd h (Nat.not_lt_zero t)
  | j + 1, t, h => by
    rw [bst]
    rcases Nat.lt_or_ge t j with q | q
    · have := bst_ge L i M j t q
      split
      · simp only; omega
      · exact this
    · obtain rfl : t = j := by omega
      split
      · exact Nat.le_refl _
      · omega
theorem bst_is (L : List Int32) (i : Nat) (M : List Int32) : ∀ j, 0 < (bst L i M j).1 → (bst L i M j).1 = cpl (L.drop i) (M.drop (bst L i M j).2)
  | 0, h => absurd h (by simp [bst])
  | j + 1, h => by
    rw [bst] at h ⊢
    split
    · rfl
    · rename_i z
      rw [if_neg z] at h
      exact bst_is L i M j h
theorem bst_run (L : List Int32) (i : Nat) (M : List Int32) : cpl (L.drop i) (M.drop (bst L i M M.length).2) = (bst L i M M.length).1 := by
  rcases Nat.eq_zero_or_pos (bst L i M M.length).1 with z | z
  · rcases Nat.eq_zero_or_pos M.length with y | y
    · have : M = [] := List.eq_nil_of_length_eq_zero y
      subst this
      rw [z]
      have := cpl_le2 (L.drop i) (([] : List Int32).drop (bst L i [] ([] : List Int32).length).2)
      simp at this ⊢
      omega
    · have h1 := (bst_lt L i M M.length).1
      rcases Nat.lt_or_ge (bst L i M M.length).2 M.length with q | q
      · have := bst_ge L i M M.length _ q
        omega
      · have h2 := cpl_le2 (L.drop i) (M.drop (bst L i M M.length).2)
        rw [List.length_drop] at h2
        omega
  · exact (bst_is L i M M.length z).symm
theorem x_dg2 {n : Nat} (c : ¬ nI (dgt n) ≤ 1) : dgt n = 2 := by
  unfold dgt at c ⊢
  split
  · rename_i z
    rw [if_pos z] at c
    exact absurd (by decide) c
  · rfl
theorem dgt_ins (m : Nat) : 1 ≤ m → dgt (2 * m) ≤ m := by
  intro h
  unfold dgt
  split <;> omega
theorem insE_len {L : List Int32} {a b : Nat} (hab : a ≤ b) (hb : b ≤ L.length) : (insE L a b).length ≤ 2 * (b - a) := by
  unfold insE
  split
  · have := dgt_ins (b - a) (by omega)
    rw [List.length_append, encN_len, List.length_take, List.length_drop, Nat.min_eq_left (by omega)]
    omega
  · exact Nat.zero_le _
def dif (L M : List Int32) : Nat → Nat → Nat → List Int32
  | 0, _, nw => insE L nw L.length
  | n + 1, i, nw => if i < L.length then (if 4 ≤ (bst L i M M.length).1 then insE L nw i ++ (encN (2 * (bst L i M M.length).1 + 1) ++ (encN (bst L i M M.length).2 ++ dif L M n (i + (bst L i M M.length).1) (i + (bst L i M M.length).1))) else dif L M n (i + 1) nw) else insE L nw L.length
theorem dif_skip {L M : List Int32} {m n i nw : Nat} (e : M.length = m) (hi : i < L.length) (h : ¬ 4 ≤ cpl (L.drop i) (M.drop (bst L i M m).2)) : dif L M (n + 1) i nw = dif L M n (i + 1) nw := by
  subst e
  rw [bst_run] at h
  rw [dif, if_pos hi, if_neg h]
theorem dif_copy {L M : List Int32} {m n i nw : Nat} (e : M.length = m) (hi : i < L.length) (h : 4 ≤ cpl (L.drop i) (M.drop (bst L i M m).2)) : dif L M (n + 1) i nw = insE L nw i ++ (encN (2 * cpl (L.drop i) (M.drop (bst L i M m).2) + 1) ++ (encN (bst L i M m).2 ++ dif L M n (i + cpl (L.drop i) (M.drop (bst L i M m).2)) (i + cpl (L.drop i) (M.drop (bst L i M m).2)))) := by
  subst e
  rw [bst_run] at h ⊢
  rw [dif, if_pos hi, if_pos h]
theorem dif_end {L M : List Int32} {n i nw : Nat} (hi : ¬ i < L.length) : dif L M n i nw = insE L nw L.length := by
  cases n with
  | zero => rfl
  | succ n => rw [dif, if_neg hi]
theorem x_difE {L M P D : List Int32} {k nw q q2 F : Nat} {g : Nat → Int32} (e : L.length = k) (h0 : nw ≤ k) (h2 : q ≤ 2 * nw) (hk : k ≤ 256) (h4 : P ++ dif L M F k nw = D) (u0 : q2 = q + (insE L nw k).length) (u1 : tx (P ++ insE L nw k) q2 g) : q2 ≤ 512 ∧ tx D q2 g := by
  subst e
  rw [dif_end (Nat.lt_irrefl _)] at h4
  rw [h4] at u1
  have := insE_len (L := L) h0 (Nat.le_refl _)
  exact ⟨by omega, u1⟩
theorem insE_len0 {L : List Int32} {k : Nat} (e : L.length = k) : (insE L 0 k).length ≤ dgt (2 * k) + k := by
  subst e
  unfold insE
  split
  · rw [List.length_append, encN_len, List.length_take, List.length_drop, Nat.sub_zero, Nat.min_self]
    exact Nat.le_refl _
  · exact Nat.zero_le _
def pce (L M : List Int32) : List Int32 := if (dif L M L.length 0 0).length ≤ dgt (2 * L.length) + L.length then dif L M L.length 0 0 else insE L 0 L.length
theorem x_pce1 {L M : List Int32} {k n : Nat} {f : Nat → Int32} (e : L.length = k) (h : (dif L M k 0 0).length ≤ dgt (2 * k) + k) (u : tx (dif L M k 0 0) n f) : tx (pce L M) n f := by
  subst e
  rw [pce, if_pos h]
  exact u
theorem x_pce2 {L M : List Int32} {k n : Nat} {f : Nat → Int32} (e : L.length = k) (h : ¬ (dif L M k 0 0).length ≤ dgt (2 * k) + k) (u : tx ([] ++ insE L 0 k) n f) : tx (pce L M) n f := by
  subst e
  rw [pce, if_neg h]
  exact u
theorem y_en1 {n q : Nat} {P : List Int32} {g : Nat → Int32} (hn : n < 2 ^ 31) (c : nI n ≤ 127) (h : tx (P ++ [nbb (nI n)]) (q + 1) g) : q + 1 = q + dgt n ∧ tx (P ++ encN n) (q + 1) g := by
  have h1 : n ≤ 127 := (nI_leI hn (by decide)).mp (show nI n ≤ nI 127 from c)
  rw [dgt, encN, if_pos (by omega), if_pos (by omega)]
  exact ⟨rfl, h⟩
theorem y_en2 {n q : Nat} {P : List Int32} {g : Nat → Int32} (hn : n < 2 ^ 31) (c : ¬ nI n ≤ 127) (h : tx (P ++ [nbb (nI (n % 128 + 128))] ++ [nbb (nI (n / 128))]) (q + 1 + 1) g) : q + 1 + 1 = q + dgt n ∧ tx (P ++ encN n) (q + 1 + 1) g := by
  have h1 : ¬ n < 128 := fun z => c (show nI n ≤ nI 127 from nI_le (by omega) (by decide))
  rw [dgt, encN, if_neg h1, if_neg h1]
  refine ⟨rfl, ?_⟩
  simpa using h
theorem y_ins {L P : List Int32} {k a j q : Nat} {x : Int32} {f g : Nat → Int32} (h : tx L k f) (hk : k ≤ 256) (ha : a ≤ j) (hj : j < k) (e : x = f (Int32.toNatClampNeg (nI j))) (hu : tx (P ++ (L.drop a).take (j - a) ++ [nbb x]) q g) : tx (P ++ (L.drop a).take (j + 1 - a)) q g := by
  rw [nI_clamp (by omega)] at e
  rw [e, show nbb (f j) = f j from tx_inB h hj, tx_at h hj] at hu
  rw [take_drop_snoc ha (by rw [h.1]; exact hj), ← List.append_assoc]
  exact hu
theorem y_insF {L P : List Int32} {a b q : Nat} {g : Nat → Int32} (c : nI b ≤ nI a) (ha : a < 2 ^ 31) (hb : b < 2 ^ 31) (h : tx P q g) : q = q + (insE L a b).length ∧ tx (P ++ insE L a b) q g := by
  have h1 := (nI_leI hb ha).mp c
  rw [insE, if_neg (by omega), List.append_nil]
  exact ⟨rfl, h⟩
def oneE (k : Nat) : Nat := if k = 0 then 0 else dgt (2 * k) + k
theorem insE_0 (L : List Int32) : (insE L 0 L.length).length = oneE L.length := by
  unfold insE oneE
  split
  · rw [if_neg (by omega), List.length_append, encN_len, List.length_take, List.length_drop, Nat.sub_zero, Nat.min_self]
  · rw [if_pos (by omega)]; rfl
theorem dif_0 (L M : List Int32) (h : L.length = 0) : (dif L M L.length 0 0).length = 0 := by
  rw [dif_end (by omega), h, insE, if_neg (by omega)]; rfl
theorem y_pce1 {L M : List Int32} {k n : Nat} {f : Nat → Int32} (e : L.length = k) (h : (dif L M k 0 0).length ≤ oneE k) (u : tx (dif L M k 0 0) n f) : tx (pce L M) n f := by
  subst e
  rw [pce, if_pos]
  · exact u
  · refine Nat.le_trans h ?_
    unfold oneE
    split
    · exact Nat.zero_le _
    · exact Nat.le_refl _
theorem y_pce2 {L M : List Int32} {k n : Nat} {f : Nat → Int32} (e : L.length = k) (h : ¬ (dif L M k 0 0).length ≤ oneE k) (u : tx ([] ++ insE L 0 k) n f) : tx (pce L M) n f := by
  subst e
  rw [pce, if_neg]
  · exact u
  · intro z
    apply h
    unfold oneE
    split
    · next h0 => rw [dif_0 L M h0]; exact Nat.le_refl _
    · exact z
theorem dif_skip1 {L M : List Int32} {m n i nw : Nat} (e : M.length = m) (hi : i < L.length) (h : ¬ 4 ≤ (bst L i M m).1) : dif L M (n + 1) i nw = dif L M n (i + 1) nw := by
  subst e
  rw [dif, if_pos hi, if_neg h]
theorem dif_copy1 {L M : List Int32} {m n i nw : Nat} (e : M.length = m) (hi : i < L.length) (h : 4 ≤ (bst L i M m).1) : dif L M (n + 1) i nw = insE L nw i ++ (encN (2 * (bst L i M m).1 + 1) ++ (encN (bst L i M m).2 ++ dif L M n (i + (bst L i M m).1) (i + (bst L i M m).1))) := by
  subst e
  rw [dif, if_pos hi, if_pos h]
theorem oneE_1 {k : Nat} (h : k ≠ 0) (h2 : k < 64) : oneE k = k + 1 := by
  unfold oneE dgt
  rw [if_neg h, if_pos (by omega)]
  omega
theorem oneE_2 {k : Nat} (h2 : ¬ k < 64) : oneE k = k + 2 := by
  unfold oneE dgt
  rw [if_neg (by omega), if_neg (by omega)]
  omega
theorem oneE_le (k : Nat) : oneE k ≤ k + 2 := by
  unfold oneE dgt
  split
  · omega
  · split <;> omega
end
section
set_option maxHeartbeats 4000000 in
set_option maxRecDepth 100000 in
theorem c_Power_init (l : Launch) (dC : Nat → ClassId) (dI : Nat → Nat → Nat) (sz : Nat) (h0 : Nat)  : Met l y_P_init k_P_init ({ frames := 1, cells := 0, slots := 0, locals := 12 } : Room) (va_Pc [.ref h0] (pc_E (dC, dI) [(h0, .inr (4, [.int 0, .int 0, .int 0]))] [] sz)) (va_Qv (fun (_ : Unit) => True) (fun (_ : Unit) t => at_E (dC, dI) (va_A [(h0, .inr (4, [.int 0, .int 0, .int 0]))] sz) [(h0, .inr (4, [.int 0, .int 0, .int 0]))] [] t) (va_A [(h0, .inr (4, [.int 0, .int 0, .int 0]))] sz)) 0 0 (va_A [(h0, .inr (4, [.int 0, .int 0, .int 0]))] sz) := by
  refine Met.ofW (cc := prog_5_method_1_code) (maxL := 1) (ret := none) (by decide) rfl ?_
  intro p e s m args below meth c s₁ B hml hv
  obtain ⟨rfl, hsz, hP, hK, hD0, hN⟩ := hv
  have hx := B.exec
  have hb := B.bytes
  have hr := B.returns
  have hts := atoms_spec (ws := k_P_init) B.pre
  have hw0 : ∀ w ∈ w0, w.before _ s = true := fun w h => hts w (List.mem_cons_of_mem _ h)
  have hown : s.vm.findClass R_P = some m.cls := findClass_of_methodNamed B.named
  have hlocks := B.notSynchronized
  have hin : meth.name = "<init>" := (name_of_methodNamed B.named B.method).1
  subst hsz
  have hD := hD0.self (sz := s.heap.size)
  generalize hAe : va_A [(h0, .inr (4, [.int 0, .int 0, .int 0]))] s.heap.size = A at hD ⊢
  have hA : ∀ q : Nat, s.heap.size ≤ q → A q := fun q h => by rw [← hAe]; exact Or.inr h
  have hS : va_S A s.heap s.heap [] := va_S.rf
  have hP : va_P (dC, dI) vwCl [(h0, .inr (4, [.int 0, .int 0, .int 0]))] s.heap := hP
  have hl := lv_entry ([.ref h0]) (n := 1) (Nat.le_of_ble_eq_true rfl)
  rw [lg_entry_eq]
  generalize (lg_sl ([.ref h0]) ++ List.replicate (1 - (lg_sl ([.ref h0])).length) Slot.unset).toArray = ls at hl ⊢
  have hl : lv_has ls 1 [(0, .ref h0)] := hl
  refine lv_aload_n hx hb d_P_init_0 rfl (lv_at hl 0 rfl) ?_
  refine W.objInit hx hb hown (hw0 (.methodLink R_P 1 objectInit) (List.mem_of_getElem? (i := 53) rfl)) (hw0 (.instanceMethod objectInit) (List.mem_of_getElem? (i := 54) rfl)) (hw0 (.code objectInit ⟨#[0xb1]⟩ 1 none) (List.mem_of_getElem? (i := 55) rfl)) rfl (by rw [hml]; exact hl.1) rfl d_P_init_1 (Nat.le_of_ble_eq_true rfl) (Nat.le_of_ble_eq_true rfl) ?_
  refine W.eq (g2 := F0 m 4 ls []) rfl ?_
  refine lv_aload_n hx hb d_P_init_4 rfl (lv_at hl 0 rfl) ?_
  refine lv_iconst (v := 0) hx hb d_P_init_5 (by decide) ?_
  refine va_put (D := (dC, dI)) (ci := 4) (v := .int 0) (ty := .boolean) (C := R_P) (T := F_P) (N := 3) hx hb hw0 in_P ft_P tk_P nk_P hown hK hP hD hS 0 rfl rfl 0 (by decide) (hw0 (.fieldLink R_P 7 "TextKeeper$Power" "down" "Z") (List.mem_of_getElem? (i := 56) rfl)) (fun _ h9 => h9) rfl (by decide +kernel) rfl rfl (Nat.le_of_ble_eq_true rfl) d_P_init_6 (fun H locs hP hD hS => ?_)
  replace hP : va_P (dC, dI) vwCl [(h0, .inr (4, [.int 0, .int 0, .int 0]))] H := hP
  replace hD : va_D A [(h0, .inr (4, [.int 0, .int 0, .int 0]))] := hD
  refine lv_aload_n hx hb d_P_init_9 rfl (lv_at hl 0 rfl) ?_
  refine lv_iconst (v := 0) hx hb d_P_init_10 (by decide) ?_
  refine va_put (D := (dC, dI)) (ci := 4) (v := .int 0) (ty := .boolean) (C := R_P) (T := F_P) (N := 3) hx hb hw0 in_P ft_P tk_P nk_P hown hK hP hD hS 0 rfl rfl 1 (by decide) (hw0 (.fieldLink R_P 13 "TextKeeper$Power" "going" "Z") (List.mem_of_getElem? (i := 57) rfl)) (fun _ h9 => h9) rfl (by decide +kernel) rfl rfl (Nat.le_of_ble_eq_true rfl) d_P_init_11 (fun H locs hP hD hS => ?_)
  replace hP : va_P (dC, dI) vwCl [(h0, .inr (4, [.int 0, .int 0, .int 0]))] H := hP
  replace hD : va_D A [(h0, .inr (4, [.int 0, .int 0, .int 0]))] := hD
  refine lv_aload_n hx hb d_P_init_14 rfl (lv_at hl 0 rfl) ?_
  refine lv_iconst (v := 0) hx hb d_P_init_15 (by decide) ?_
  refine va_put (D := (dC, dI)) (ci := 4) (v := .int 0) (ty := .int) (C := R_P) (T := F_P) (N := 3) hx hb hw0 in_P ft_P tk_P nk_P hown hK hP hD hS 0 rfl rfl 2 (by decide) (hw0 (.fieldLink R_P 16 "TextKeeper$Power" "writesLeft" "I") (List.mem_of_getElem? (i := 58) rfl)) (fun _ h9 => h9) rfl (by decide +kernel) rfl rfl (Nat.le_of_ble_eq_true rfl) d_P_init_16 (fun H locs hP hD hS => ?_)
  replace hP : va_P (dC, dI) vwCl [(h0, .inr (4, [.int 0, .int 0, .int 0]))] H := hP
  replace hD : va_D A [(h0, .inr (4, [.int 0, .int 0, .int 0]))] := hD
  have hP9 := hP.sub (ws' := [(h0, .inr (4, [.int 0, .int 0, .int 0]))]) [0] rfl
  have hD9 := hD.sub (ws' := [(h0, .inr (4, [.int 0, .int 0, .int 0]))]) [0] (by decide) rfl
  have hK9 := hK.sub (tys' := []) [] rfl
  exact W.vret hx hb hr (fun t ht hW => ⟨⟨(), rfl, trivial, by rw [ht]; exact hP9, va_K.moved hW.alike hK9, hD9⟩, hS.F ht⟩) hS.2.2 d_P_init_19
set_option maxHeartbeats 4000000 in
set_option maxRecDepth 100000 in
theorem c_Text_init (l : Launch) (dC : Nat → ClassId) (dI : Nat → Nat → Nat) (sz : Nat) (h0 : Nat)  : Met l y_T_init k_T_init ({ frames := 1, cells := 1, slots := 256, locals := 12 } : Room) (va_Pc [.ref h0] (pc_E (dC, dI) [(h0, .inr (1, [.null, .int 0]))] [] sz)) (va_Qv (fun (_ : Unit) => True) (fun (_ : Unit) t => ∃ (q1 : Nat) (cB : ClassId), at_E (dC, dI) (va_A [(h0, .inr (1, [.null, .int 0]))] sz) [(h0, .inr (1, [.ref q1, .int 0])), (q1, .inl (cB, 256, .inl (fun _ => 0)))] [(cB, .byte)] t) (va_A [(h0, .inr (1, [.null, .int 0]))] sz)) 1 256 (va_A [(h0, .inr (1, [.null, .int 0]))] sz) := by
  refine Met.ofW (cc := prog_7_method_1_code) (maxL := 1) (ret := none) (by decide) rfl ?_
  intro p e s m args below meth c s₁ B hml hv
  obtain ⟨rfl, hsz, hP, hK, hD0, hN⟩ := hv
  have hx := B.exec
  have hb := B.bytes
  have hr := B.returns
  have hts := atoms_spec (ws := k_T_init) B.pre
  have hw0 : ∀ w ∈ w0, w.before _ s = true := fun w h => hts w (List.mem_cons_of_mem _ h)
  have hown : s.vm.findClass R_T = some m.cls := findClass_of_methodNamed B.named
  have hlocks := B.notSynchronized
  have hin : meth.name = "<init>" := (name_of_methodNamed B.named B.method).1
  subst hsz
  have hD := hD0.self (sz := s.heap.size)
  generalize hAe : va_A [(h0, .inr (1, [.null, .int 0]))] s.heap.size = A at hD ⊢
  have hA : ∀ q : Nat, s.heap.size ≤ q → A q := fun q h => by rw [← hAe]; exact Or.inr h
  have hS : va_S A s.heap s.heap [] := va_S.rf
  have hP : va_P (dC, dI) vwCl [(h0, .inr (1, [.null, .int 0]))] s.heap := hP
  have hl := lv_entry ([.ref h0]) (n := 1) (Nat.le_of_ble_eq_true rfl)
  rw [lg_entry_eq]
  generalize (lg_sl ([.ref h0]) ++ List.replicate (1 - (lg_sl ([.ref h0])).length) Slot.unset).toArray = ls at hl ⊢
  have hl : lv_has ls 1 [(0, .ref h0)] := hl
  refine lv_aload_n hx hb d_T_init_0 rfl (lv_at hl 0 rfl) ?_
  refine W.objInit hx hb hown (hw0 (.methodLink R_T 3 objectInit) (List.mem_of_getElem? (i := 59) rfl)) (hw0 (.instanceMethod objectInit) (List.mem_of_getElem? (i := 54) rfl)) (hw0 (.code objectInit ⟨#[0xb1]⟩ 1 none) (List.mem_of_getElem? (i := 55) rfl)) rfl (by rw [hml]; exact hl.1) rfl d_T_init_1 (Nat.le_of_ble_eq_true rfl) (Nat.le_of_ble_eq_true rfl) ?_
  refine W.eq (g2 := F0 m 4 ls []) rfl ?_
  refine lv_aload_n hx hb d_T_init_4 rfl (lv_at hl 0 rfl) ?_
  refine lv_sipush (v := 256) hx hb d_T_init_5 (by decide +kernel) ?_
  refine va_newa (atype := .byte) (ty := .byte) (N' := 256) (a0 := (256, .inl (fun _ => 0))) hx hb (hw0 (.arrayClass .byte) (List.mem_of_getElem? (i := 60) rfl)) rfl hK hP hD hS hA (fun _ => rfl) (by decide +kernel) (by decide +kernel) (by decide +kernel) (by decide +kernel) (by decide +kernel) d_T_init_8 (fun q_1 cA_2 H hK hP hD hS => ?_)
  replace hK : va_K (dC, dI) vwCl [(cA_2, .byte)] s := hK
  replace hP : va_P (dC, dI) vwCl [(h0, .inr (1, [.null, .int 0])), (q_1, .inl (cA_2, 256, .inl (fun _ => 0)))] H := hP
  replace hD : va_D A [(h0, .inr (1, [.null, .int 0])), (q_1, .inl (cA_2, 256, .inl (fun _ => 0)))] := hD
  refine W.widen (k := 1) (n := 256) (by decide +kernel) (by decide +kernel) ?_
  refine va_putF (D := (dC, dI)) (ci := 1) (v := .ref q_1) (ty := (.array .byte)) (C := R_T) (T := F_T) (N := 2) hx hb hw0 in_T ft_T tk_T nk_T hown hK hP hD hS 0 rfl rfl 0 (by decide) (hw0 (.fieldLink R_T 9 "TextKeeper$Text" "bytes" "[B") (List.mem_of_getElem? (i := 61) rfl)) (fun _ h9 => h9) rfl hin rfl (by decide +kernel) rfl rfl (Nat.le_of_ble_eq_true rfl) d_T_init_10 (fun H locs hP hD hS => ?_)
  replace hP : va_P (dC, dI) vwCl [(h0, .inr (1, [.ref q_1, .int 0])), (q_1, .inl (cA_2, 256, .inl (fun _ => 0)))] H := hP
  replace hD : va_D A [(h0, .inr (1, [.ref q_1, .int 0])), (q_1, .inl (cA_2, 256, .inl (fun _ => 0)))] := hD
  refine lv_aload_n hx hb d_T_init_13 rfl (lv_at hl 0 rfl) ?_
  refine lv_iconst (v := 0) hx hb d_T_init_14 (by decide) ?_
  refine va_put (D := (dC, dI)) (ci := 1) (v := .int 0) (ty := .int) (C := R_T) (T := F_T) (N := 2) hx hb hw0 in_T ft_T tk_T nk_T hown hK hP hD hS 0 rfl rfl 1 (by decide) (hw0 (.fieldLink R_T 15 "TextKeeper$Text" "length" "I") (List.mem_of_getElem? (i := 62) rfl)) (fun _ h9 => h9) rfl (by decide +kernel) rfl rfl (Nat.le_of_ble_eq_true rfl) d_T_init_15 (fun H locs hP hD hS => ?_)
  replace hP : va_P (dC, dI) vwCl [(h0, .inr (1, [.ref q_1, .int 0])), (q_1, .inl (cA_2, 256, .inl (fun _ => 0)))] H := hP
  replace hD : va_D A [(h0, .inr (1, [.ref q_1, .int 0])), (q_1, .inl (cA_2, 256, .inl (fun _ => 0)))] := hD
  have hP9 := hP.sub (ws' := [(h0, .inr (1, [.ref q_1, .int 0])), (q_1, .inl (cA_2, 256, .inl (fun _ => 0)))]) [0, 1] rfl
  have hD9 := hD.sub (ws' := [(h0, .inr (1, [.ref q_1, .int 0])), (q_1, .inl (cA_2, 256, .inl (fun _ => 0)))]) [0, 1] (by decide) rfl
  have hK9 := hK.sub (tys' := [(cA_2, .byte)]) [0] rfl
  exact W.vret hx hb hr (fun t ht hW => ⟨⟨(), rfl, trivial, q_1, cA_2, by rw [ht]; exact hP9, va_K.moved hW.alike hK9, hD9⟩, hS.F ht⟩) hS.2.2 d_T_init_18
set_option maxHeartbeats 4000000 in
set_option maxRecDepth 100000 in
theorem c_PieceWriter_init (l : Launch) (dC : Nat → ClassId) (dI : Nat → Nat → Nat) (sz : Nat) (h0 : Nat)  : Met l y_W_init k_W_init ({ frames := 1, cells := 1, slots := 512, locals := 12 } : Room) (va_Pc [.ref h0] (pc_E (dC, dI) [(h0, .inr (3, [.null, .int 0]))] [] sz)) (va_Qv (fun (_ : Unit) => True) (fun (_ : Unit) t => ∃ (q1 : Nat), at_E (dC, dI) (va_A [(h0, .inr (3, [.null, .int 0]))] sz) [(h0, .inr (3, [.ref q1, .int 0]))] [] t) (va_A [(h0, .inr (3, [.null, .int 0]))] sz)) 1 512 (va_A [(h0, .inr (3, [.null, .int 0]))] sz) := by
  refine Met.ofW (cc := prog_4_method_1_code) (maxL := 1) (ret := none) (by decide) rfl ?_
  intro p e s m args below meth c s₁ B hml hv
  obtain ⟨rfl, hsz, hP, hK, hD0, hN⟩ := hv
  have hx := B.exec
  have hb := B.bytes
  have hr := B.returns
  have hts := atoms_spec (ws := k_W_init) B.pre
  have hw0 : ∀ w ∈ w0, w.before _ s = true := fun w h => hts w (List.mem_cons_of_mem _ h)
  have hown : s.vm.findClass R_W = some m.cls := findClass_of_methodNamed B.named
  have hlocks := B.notSynchronized
  have hin : meth.name = "<init>" := (name_of_methodNamed B.named B.method).1
  subst hsz
  have hD := hD0.self (sz := s.heap.size)
  generalize hAe : va_A [(h0, .inr (3, [.null, .int 0]))] s.heap.size = A at hD ⊢
  have hA : ∀ q : Nat, s.heap.size ≤ q → A q := fun q h => by rw [← hAe]; exact Or.inr h
  have hS : va_S A s.heap s.heap [] := va_S.rf
  have hP : va_P (dC, dI) vwCl [(h0, .inr (3, [.null, .int 0]))] s.heap := hP
  have hl := lv_entry ([.ref h0]) (n := 1) (Nat.le_of_ble_eq_true rfl)
  rw [lg_entry_eq]
  generalize (lg_sl ([.ref h0]) ++ List.replicate (1 - (lg_sl ([.ref h0])).length) Slot.unset).toArray = ls at hl ⊢
  have hl : lv_has ls 1 [(0, .ref h0)] := hl
  refine lv_aload_n hx hb d_W_init_0 rfl (lv_at hl 0 rfl) ?_
  refine W.objInit hx hb hown (hw0 (.methodLink R_W 3 objectInit) (List.mem_of_getElem? (i := 63) rfl)) (hw0 (.instanceMethod objectInit) (List.mem_of_getElem? (i := 54) rfl)) (hw0 (.code objectInit ⟨#[0xb1]⟩ 1 none) (List.mem_of_getElem? (i := 55) rfl)) rfl (by rw [hml]; exact hl.1) rfl d_W_init_1 (Nat.le_of_ble_eq_true rfl) (Nat.le_of_ble_eq_true rfl) ?_
  refine W.eq (g2 := F0 m 4 ls []) rfl ?_
  refine lv_aload_n hx hb d_W_init_4 rfl (lv_at hl 0 rfl) ?_
  refine lv_sipush (v := 512) hx hb d_W_init_5 (by decide +kernel) ?_
  refine va_newa (atype := .byte) (ty := .byte) (N' := 512) (a0 := (512, .inl (fun _ => 0))) hx hb (hw0 (.arrayClass .byte) (List.mem_of_getElem? (i := 60) rfl)) rfl hK hP hD hS hA (fun _ => rfl) (by decide +kernel) (by decide +kernel) (by decide +kernel) (by decide +kernel) (by decide +kernel) d_W_init_8 (fun q_1 cA_2 H hK hP hD hS => ?_)
  replace hK : va_K (dC, dI) vwCl [(cA_2, .byte)] s := hK
  replace hP : va_P (dC, dI) vwCl [(h0, .inr (3, [.null, .int 0])), (q_1, .inl (cA_2, 512, .inl (fun _ => 0)))] H := hP
  replace hD : va_D A [(h0, .inr (3, [.null, .int 0])), (q_1, .inl (cA_2, 512, .inl (fun _ => 0)))] := hD
  refine W.widen (k := 1) (n := 512) (by decide +kernel) (by decide +kernel) ?_
  refine va_putF (D := (dC, dI)) (ci := 3) (v := .ref q_1) (ty := (.array .byte)) (C := R_W) (T := F_W) (N := 2) hx hb hw0 in_W ft_W tk_W nk_W hown hK hP hD hS 0 rfl rfl 0 (by decide) (hw0 (.fieldLink R_W 9 "TextKeeper$PieceWriter" "row" "[B") (List.mem_of_getElem? (i := 64) rfl)) (fun _ h9 => h9) rfl hin rfl (by decide +kernel) rfl rfl (Nat.le_of_ble_eq_true rfl) d_W_init_10 (fun H locs hP hD hS => ?_)
  replace hP : va_P (dC, dI) vwCl [(h0, .inr (3, [.ref q_1, .int 0])), (q_1, .inl (cA_2, 512, .inl (fun _ => 0)))] H := hP
  replace hD : va_D A [(h0, .inr (3, [.ref q_1, .int 0])), (q_1, .inl (cA_2, 512, .inl (fun _ => 0)))] := hD
  refine lv_aload_n hx hb d_W_init_13 rfl (lv_at hl 0 rfl) ?_
  refine lv_iconst (v := 0) hx hb d_W_init_14 (by decide) ?_
  refine va_put (D := (dC, dI)) (ci := 3) (v := .int 0) (ty := .int) (C := R_W) (T := F_W) (N := 2) hx hb hw0 in_W ft_W tk_W nk_W hown hK hP hD hS 0 rfl rfl 1 (by decide) (hw0 (.fieldLink R_W 15 "TextKeeper$PieceWriter" "length" "I") (List.mem_of_getElem? (i := 65) rfl)) (fun _ h9 => h9) rfl (by decide +kernel) rfl rfl (Nat.le_of_ble_eq_true rfl) d_W_init_15 (fun H locs hP hD hS => ?_)
  replace hP : va_P (dC, dI) vwCl [(h0, .inr (3, [.ref q_1, .int 0])), (q_1, .inl (cA_2, 512, .inl (fun _ => 0)))] H := hP
  replace hD : va_D A [(h0, .inr (3, [.ref q_1, .int 0])), (q_1, .inl (cA_2, 512, .inl (fun _ => 0)))] := hD
  have hP9 := hP.sub (ws' := [(h0, .inr (3, [.ref q_1, .int 0]))]) [0] rfl
  have hD9 := hD.sub (ws' := [(h0, .inr (3, [.ref q_1, .int 0]))]) [0] (by decide) rfl
  have hK9 := hK.sub (tys' := []) [] rfl
  exact W.vret hx hb hr (fun t ht hW => ⟨⟨(), rfl, trivial, q_1, by rw [ht]; exact hP9, va_K.moved hW.alike hK9, hD9⟩, hS.F ht⟩) hS.2.2 d_W_init_18
set_option maxHeartbeats 4000000 in
set_option maxRecDepth 100000 in
theorem c_Maker_init (l : Launch) (dC : Nat → ClassId) (dI : Nat → Nat → Nat) (sz : Nat) (h0 : Nat)  : Met l y_M_init k_M_init ({ frames := 2, cells := 5, slots := 516, locals := 32 } : Room) (va_Pc [.ref h0] (pc_E (dC, dI) [(h0, .inr (2, [.null, .null, .null, .int 0]))] [] sz)) (va_Qv (fun (_ : Unit) => True) (fun (_ : Unit) t => ∃ (q1 : Nat) (q2 : Nat) (q3 : Nat), at_E (dC, dI) (va_A [(h0, .inr (2, [.null, .null, .null, .int 0]))] sz) [(h0, .inr (2, [.ref q1, .ref q2, .ref q3, .int 0]))] [] t) (va_A [(h0, .inr (2, [.null, .null, .null, .int 0]))] sz)) 5 516 (va_A [(h0, .inr (2, [.null, .null, .null, .int 0]))] sz) := by
  refine Met.ofW (cc := prog_3_method_1_code) (maxL := 1) (ret := none) (by decide) rfl ?_
  intro p e s m args below meth c s₁ B hml hv
  obtain ⟨rfl, hsz, hP, hK, hD0, hN⟩ := hv
  have hx := B.exec
  have hb := B.bytes
  have hr := B.returns
  have hts := atoms_spec (ws := k_M_init) B.pre
  have hw0 : ∀ w ∈ w0, w.before _ s = true := fun w h => hts w (List.mem_cons_of_mem _ h)
  have hown : s.vm.findClass R_M = some m.cls := findClass_of_methodNamed B.named
  have hlocks := B.notSynchronized
  have hin : meth.name = "<init>" := (name_of_methodNamed B.named B.method).1
  subst hsz
  have hD := hD0.self (sz := s.heap.size)
  generalize hAe : va_A [(h0, .inr (2, [.null, .null, .null, .int 0]))] s.heap.size = A at hD ⊢
  have hA : ∀ q : Nat, s.heap.size ≤ q → A q := fun q h => by rw [← hAe]; exact Or.inr h
  have hS : va_S A s.heap s.heap [] := va_S.rf
  have hP : va_P (dC, dI) vwCl [(h0, .inr (2, [.null, .null, .null, .int 0]))] s.heap := hP
  have hl := lv_entry ([.ref h0]) (n := 1) (Nat.le_of_ble_eq_true rfl)
  rw [lg_entry_eq]
  generalize (lg_sl ([.ref h0]) ++ List.replicate (1 - (lg_sl ([.ref h0])).length) Slot.unset).toArray = ls at hl ⊢
  have hl : lv_has ls 1 [(0, .ref h0)] := hl
  refine lv_aload_n hx hb d_M_init_0 rfl (lv_at hl 0 rfl) ?_
  refine W.objInit hx hb hown (hw0 (.methodLink R_M 3 objectInit) (List.mem_of_getElem? (i := 66) rfl)) (hw0 (.instanceMethod objectInit) (List.mem_of_getElem? (i := 54) rfl)) (hw0 (.code objectInit ⟨#[0xb1]⟩ 1 none) (List.mem_of_getElem? (i := 55) rfl)) rfl (by rw [hml]; exact hl.1) rfl d_M_init_1 (Nat.le_of_ble_eq_true rfl) (Nat.le_of_ble_eq_true rfl) ?_
  refine W.eq (g2 := F0 m 4 ls []) rfl ?_
  refine lv_aload_n hx hb d_M_init_4 rfl (lv_at hl 0 rfl) ?_
  refine va_new (ci := 1) (fs := [.null, .int 0]) (C := R_T) (T := F_T) (N := 2) hx hb hw0 in_T ft_T tk_T hown (hw0 (.classLink R_M 9 R_T) (List.mem_of_getElem? (i := 67) rfl)) (hw0 (.instantiable R_T 2) (List.mem_of_getElem? (i := 68) rfl)) (hw0 (.initialized R_T) (List.mem_of_getElem? (i := 69) rfl)) hK hP hD hS hA rfl (fun j hj => nw_T j hj) (by decide +kernel) (by decide +kernel) d_M_init_5 (fun q_1 H hP hD hS => ?_)
  replace hP : va_P (dC, dI) vwCl [(h0, .inr (2, [.null, .null, .null, .int 0])), (q_1, .inr (1, [.null, .int 0]))] H := hP
  replace hD : va_D A [(h0, .inr (2, [.null, .null, .null, .int 0])), (q_1, .inr (1, [.null, .int 0]))] := hD
  refine W.widen (k := 1) (n := 2) (by decide +kernel) (by decide +kernel) ?_
  refine lv_dup hx hb d_M_init_8 rfl ?_
  have hPc := hP.sub (ws' := [(q_1, .inr (1, [.null, .int 0]))]) [1] rfl
  have hKc := hK.sub (tys' := []) [] rfl
  have hDc := hD.sub (ws' := [(q_1, .inr (1, [.null, .int 0]))]) [1] (by decide) rfl
  have hFc := va_free (wc := [(q_1, .inr (1, [.null, .int 0]))]) hD hS hA [1] rfl
  refine va_callv (va_runI (As := []) (rest := [.ref q_1, .ref h0]) ⟨hx, hb, hml, hown, hw0⟩ (c_Text_init l dC dI H.size q_1) (cwI 0 hw0 (gd_I 70 rfl) rfl rfl rfl (hw0 (.initialized R_T) (List.mem_of_getElem? (i := 69) rfl)) (hw0 (.methodLink R_M 11 y_T_init) (List.mem_of_getElem? (i := 71) rfl)) (hw0 (.instanceMethod y_T_init) (List.mem_of_getElem? (i := 72) rfl)) rfl (by decide +kernel) ⟨by decide +kernel, by decide +kernel⟩) (prS_E hPc hKc hDc hN) rfl rfl hl.1 rfl (lv_room (Nat.le_of_ble_eq_true rfl)) d_M_init_9 ⟨by decide +kernel, by decide +kernel⟩) hS (fun q _ h => hFc q h) hFc (fun u t H1 locs ht hvm hw hB hz1 hk1 hS => ?_)
  obtain ⟨q1_2, cB_3, hP1, hK1, hD1⟩ := hB
  rw [ht] at hP1
  have hK1 := va_K.moved hvm.symm hK1
  try dsimp only at hw
  obtain ⟨hP, hD⟩ := va_join (wr := [(h0, .inr (2, [.null, .null, .null, .int 0]))]) (w1 := [(q_1, .inr (1, [.ref q1_2, .int 0])), (q1_2, .inl (cB_3, 256, .inl (fun _ => 0)))]) hP hD [1] [0] rfl rfl (by decide) (by decide) hk1 hFc hP1 hD1
  have hK := hK.app (hK1.sub (tys' := [(cB_3, .byte)]) [0] rfl)
  generalize H1 = H at hP hS ⊢
  replace hP : va_P (dC, dI) vwCl [(h0, .inr (2, [.null, .null, .null, .int 0])), (q_1, .inr (1, [.ref q1_2, .int 0])), (q1_2, .inl (cB_3, 256, .inl (fun _ => 0)))] H := hP
  replace hD : va_D A [(h0, .inr (2, [.null, .null, .null, .int 0])), (q_1, .inr (1, [.ref q1_2, .int 0])), (q1_2, .inl (cB_3, 256, .inl (fun _ => 0)))] := hD
  replace hK : va_K (dC, dI) vwCl [(cB_3, .byte)] s := hK
  refine W.widen (k := 2) (n := 258) (by decide +kernel) (by decide +kernel) ?_
  refine va_put (D := (dC, dI)) (ci := 2) (v := .ref q_1) (ty := (.object "TextKeeper$Text")) (C := R_M) (T := F_M) (N := 4) hx hb hw0 in_M ft_M tk_M nk_M hown hK hP hD hS 0 rfl rfl 0 (by decide) (hw0 (.fieldLink R_M 12 "TextKeeper$Maker" "base" "LTextKeeper$Text;") (List.mem_of_getElem? (i := 73) rfl)) (fun _ h9 => h9) rfl (by decide +kernel) rfl rfl (Nat.le_of_ble_eq_true rfl) d_M_init_12 (fun H locs hP hD hS => ?_)
  replace hP : va_P (dC, dI) vwCl [(h0, .inr (2, [.ref q_1, .null, .null, .int 0])), (q_1, .inr (1, [.ref q1_2, .int 0])), (q1_2, .inl (cB_3, 256, .inl (fun _ => 0)))] H := hP
  replace hD : va_D A [(h0, .inr (2, [.ref q_1, .null, .null, .int 0])), (q_1, .inr (1, [.ref q1_2, .int 0])), (q1_2, .inl (cB_3, 256, .inl (fun _ => 0)))] := hD
  refine lv_aload_n hx hb d_M_init_15 rfl (lv_at hl 0 rfl) ?_
  refine va_new (ci := 1) (fs := [.null, .int 0]) (C := R_T) (T := F_T) (N := 2) hx hb hw0 in_T ft_T tk_T hown (hw0 (.classLink R_M 9 R_T) (List.mem_of_getElem? (i := 67) rfl)) (hw0 (.instantiable R_T 2) (List.mem_of_getElem? (i := 68) rfl)) (hw0 (.initialized R_T) (List.mem_of_getElem? (i := 69) rfl)) hK hP hD hS hA rfl (fun j hj => nw_T j hj) (by decide +kernel) (by decide +kernel) d_M_init_16 (fun q_5 H hP hD hS => ?_)
  replace hP : va_P (dC, dI) vwCl [(h0, .inr (2, [.ref q_1, .null, .null, .int 0])), (q_1, .inr (1, [.ref q1_2, .int 0])), (q1_2, .inl (cB_3, 256, .inl (fun _ => 0))), (q_5, .inr (1, [.null, .int 0]))] H := hP
  replace hD : va_D A [(h0, .inr (2, [.ref q_1, .null, .null, .int 0])), (q_1, .inr (1, [.ref q1_2, .int 0])), (q1_2, .inl (cB_3, 256, .inl (fun _ => 0))), (q_5, .inr (1, [.null, .int 0]))] := hD
  refine W.widen (k := 3) (n := 260) (by decide +kernel) (by decide +kernel) ?_
  refine lv_dup hx hb d_M_init_19 rfl ?_
  have hPc := hP.sub (ws' := [(q_5, .inr (1, [.null, .int 0]))]) [3] rfl
  have hKc := hK.sub (tys' := []) [] rfl
  have hDc := hD.sub (ws' := [(q_5, .inr (1, [.null, .int 0]))]) [3] (by decide) rfl
  have hFc := va_free (wc := [(q_5, .inr (1, [.null, .int 0]))]) hD hS hA [3] rfl
  refine va_callv (va_runI (As := []) (rest := [.ref q_5, .ref h0]) ⟨hx, hb, hml, hown, hw0⟩ (c_Text_init l dC dI H.size q_5) (cwI 0 hw0 (gd_I 70 rfl) rfl rfl rfl (hw0 (.initialized R_T) (List.mem_of_getElem? (i := 69) rfl)) (hw0 (.methodLink R_M 11 y_T_init) (List.mem_of_getElem? (i := 71) rfl)) (hw0 (.instanceMethod y_T_init) (List.mem_of_getElem? (i := 72) rfl)) rfl (by decide +kernel) ⟨by decide +kernel, by decide +kernel⟩) (prS_E hPc hKc hDc hN) rfl rfl hl.1 rfl (lv_room (Nat.le_of_ble_eq_true rfl)) d_M_init_20 ⟨by decide +kernel, by decide +kernel⟩) hS (fun q _ h => hFc q h) hFc (fun u t H1 locs ht hvm hw hB hz1 hk1 hS => ?_)
  obtain ⟨q1_6, cB_7, hP1, hK1, hD1⟩ := hB
  rw [ht] at hP1
  have hK1 := va_K.moved hvm.symm hK1
  try dsimp only at hw
  obtain ⟨hP, hD⟩ := va_join (wr := [(h0, .inr (2, [.ref q_1, .null, .null, .int 0])), (q_1, .inr (1, [.ref q1_2, .int 0])), (q1_2, .inl (cB_3, 256, .inl (fun _ => 0)))]) (w1 := [(q_5, .inr (1, [.ref q1_6, .int 0])), (q1_6, .inl (cB_7, 256, .inl (fun _ => 0)))]) hP hD [3] [0, 1, 2] rfl rfl (by decide) (by decide) hk1 hFc hP1 hD1
  have hK := hK.app (hK1.sub (tys' := [(cB_7, .byte)]) [0] rfl)
  generalize H1 = H at hP hS ⊢
  replace hP : va_P (dC, dI) vwCl [(h0, .inr (2, [.ref q_1, .null, .null, .int 0])), (q_1, .inr (1, [.ref q1_2, .int 0])), (q1_2, .inl (cB_3, 256, .inl (fun _ => 0))), (q_5, .inr (1, [.ref q1_6, .int 0])), (q1_6, .inl (cB_7, 256, .inl (fun _ => 0)))] H := hP
  replace hD : va_D A [(h0, .inr (2, [.ref q_1, .null, .null, .int 0])), (q_1, .inr (1, [.ref q1_2, .int 0])), (q1_2, .inl (cB_3, 256, .inl (fun _ => 0))), (q_5, .inr (1, [.ref q1_6, .int 0])), (q1_6, .inl (cB_7, 256, .inl (fun _ => 0)))] := hD
  replace hK : va_K (dC, dI) vwCl [(cB_3, .byte), (cB_7, .byte)] s := hK
  refine W.widen (k := 4) (n := 516) (by decide +kernel) (by decide +kernel) ?_
  refine va_put (D := (dC, dI)) (ci := 2) (v := .ref q_5) (ty := (.object "TextKeeper$Text")) (C := R_M) (T := F_M) (N := 4) hx hb hw0 in_M ft_M tk_M nk_M hown hK hP hD hS 0 rfl rfl 1 (by decide) (hw0 (.fieldLink R_M 18 "TextKeeper$Maker" "text" "LTextKeeper$Text;") (List.mem_of_getElem? (i := 74) rfl)) (fun _ h9 => h9) rfl (by decide +kernel) rfl rfl (Nat.le_of_ble_eq_true rfl) d_M_init_23 (fun H locs hP hD hS => ?_)
  replace hP : va_P (dC, dI) vwCl [(h0, .inr (2, [.ref q_1, .ref q_5, .null, .int 0])), (q_1, .inr (1, [.ref q1_2, .int 0])), (q1_2, .inl (cB_3, 256, .inl (fun _ => 0))), (q_5, .inr (1, [.ref q1_6, .int 0])), (q1_6, .inl (cB_7, 256, .inl (fun _ => 0)))] H := hP
  replace hD : va_D A [(h0, .inr (2, [.ref q_1, .ref q_5, .null, .int 0])), (q_1, .inr (1, [.ref q1_2, .int 0])), (q1_2, .inl (cB_3, 256, .inl (fun _ => 0))), (q_5, .inr (1, [.ref q1_6, .int 0])), (q1_6, .inl (cB_7, 256, .inl (fun _ => 0)))] := hD
  refine lv_aload_n hx hb d_M_init_26 rfl (lv_at hl 0 rfl) ?_
  refine lv_iconst (v := 0) hx hb d_M_init_27 (by decide) ?_
  refine va_newa (atype := .byte) (ty := .byte) (N' := 0) (a0 := (0, .inl (fun _ => 0))) hx hb (hw0 (.arrayClass .byte) (List.mem_of_getElem? (i := 60) rfl)) rfl hK hP hD hS hA (fun _ => rfl) (by decide +kernel) (by decide +kernel) (by decide +kernel) (by decide +kernel) (by decide +kernel) d_M_init_28 (fun q_9 cA_10 H hK hP hD hS => ?_)
  replace hK : va_K (dC, dI) vwCl [(cB_3, .byte), (cB_7, .byte), (cA_10, .byte)] s := hK
  replace hP : va_P (dC, dI) vwCl [(h0, .inr (2, [.ref q_1, .ref q_5, .null, .int 0])), (q_1, .inr (1, [.ref q1_2, .int 0])), (q1_2, .inl (cB_3, 256, .inl (fun _ => 0))), (q_5, .inr (1, [.ref q1_6, .int 0])), (q1_6, .inl (cB_7, 256, .inl (fun _ => 0))), (q_9, .inl (cA_10, 0, .inl (fun _ => 0)))] H := hP
  replace hD : va_D A [(h0, .inr (2, [.ref q_1, .ref q_5, .null, .int 0])), (q_1, .inr (1, [.ref q1_2, .int 0])), (q1_2, .inl (cB_3, 256, .inl (fun _ => 0))), (q_5, .inr (1, [.ref q1_6, .int 0])), (q1_6, .inl (cB_7, 256, .inl (fun _ => 0))), (q_9, .inl (cA_10, 0, .inl (fun _ => 0)))] := hD
  refine W.widen (k := 5) (n := 516) (by decide +kernel) (by decide +kernel) ?_
  refine va_put (D := (dC, dI)) (ci := 2) (v := .ref q_9) (ty := (.array .byte)) (C := R_M) (T := F_M) (N := 4) hx hb hw0 in_M ft_M tk_M nk_M hown hK hP hD hS 0 rfl rfl 2 (by decide) (hw0 (.fieldLink R_M 21 "TextKeeper$Maker" "piece" "[B") (List.mem_of_getElem? (i := 75) rfl)) (fun _ h9 => h9) rfl (by decide +kernel) rfl rfl (Nat.le_of_ble_eq_true rfl) d_M_init_30 (fun H locs hP hD hS => ?_)
  replace hP : va_P (dC, dI) vwCl [(h0, .inr (2, [.ref q_1, .ref q_5, .ref q_9, .int 0])), (q_1, .inr (1, [.ref q1_2, .int 0])), (q1_2, .inl (cB_3, 256, .inl (fun _ => 0))), (q_5, .inr (1, [.ref q1_6, .int 0])), (q1_6, .inl (cB_7, 256, .inl (fun _ => 0))), (q_9, .inl (cA_10, 0, .inl (fun _ => 0)))] H := hP
  replace hD : va_D A [(h0, .inr (2, [.ref q_1, .ref q_5, .ref q_9, .int 0])), (q_1, .inr (1, [.ref q1_2, .int 0])), (q1_2, .inl (cB_3, 256, .inl (fun _ => 0))), (q_5, .inr (1, [.ref q1_6, .int 0])), (q1_6, .inl (cB_7, 256, .inl (fun _ => 0))), (q_9, .inl (cA_10, 0, .inl (fun _ => 0)))] := hD
  refine lv_aload_n hx hb d_M_init_33 rfl (lv_at hl 0 rfl) ?_
  refine lv_iconst (v := 0) hx hb d_M_init_34 (by decide) ?_
  refine va_put (D := (dC, dI)) (ci := 2) (v := .int 0) (ty := .int) (C := R_M) (T := F_M) (N := 4) hx hb hw0 in_M ft_M tk_M nk_M hown hK hP hD hS 0 rfl rfl 3 (by decide) (hw0 (.fieldLink R_M 25 "TextKeeper$Maker" "at" "I") (List.mem_of_getElem? (i := 76) rfl)) (fun _ h9 => h9) rfl (by decide +kernel) rfl rfl (Nat.le_of_ble_eq_true rfl) d_M_init_35 (fun H locs hP hD hS => ?_)
  replace hP : va_P (dC, dI) vwCl [(h0, .inr (2, [.ref q_1, .ref q_5, .ref q_9, .int 0])), (q_1, .inr (1, [.ref q1_2, .int 0])), (q1_2, .inl (cB_3, 256, .inl (fun _ => 0))), (q_5, .inr (1, [.ref q1_6, .int 0])), (q1_6, .inl (cB_7, 256, .inl (fun _ => 0))), (q_9, .inl (cA_10, 0, .inl (fun _ => 0)))] H := hP
  replace hD : va_D A [(h0, .inr (2, [.ref q_1, .ref q_5, .ref q_9, .int 0])), (q_1, .inr (1, [.ref q1_2, .int 0])), (q1_2, .inl (cB_3, 256, .inl (fun _ => 0))), (q_5, .inr (1, [.ref q1_6, .int 0])), (q1_6, .inl (cB_7, 256, .inl (fun _ => 0))), (q_9, .inl (cA_10, 0, .inl (fun _ => 0)))] := hD
  have hP9 := hP.sub (ws' := [(h0, .inr (2, [.ref q_1, .ref q_5, .ref q_9, .int 0]))]) [0] rfl
  have hD9 := hD.sub (ws' := [(h0, .inr (2, [.ref q_1, .ref q_5, .ref q_9, .int 0]))]) [0] (by decide) rfl
  have hK9 := hK.sub (tys' := []) [] rfl
  exact W.vret hx hb hr (fun t ht hW => ⟨⟨(), rfl, trivial, q_1, q_5, q_9, by rw [ht]; exact hP9, va_K.moved hW.alike hK9, hD9⟩, hS.F ht⟩) hS.2.2 d_M_init_38
set_option maxHeartbeats 4000000 in
set_option maxRecDepth 100000 in
theorem c_Keeper_init (l : Launch) (dC : Nat → ClassId) (dI : Nat → Nat → Nat) (sz : Nat) (h0 : Nat)  : Met l y_K_init k_K_init ({ frames := 3, cells := 16, slots := 1819, locals := 52 } : Room) (va_Pc [.ref h0] (pc_E (dC, dI) [(h0, .inr (0, [.null, .null, .null, .null, .null, .null, .null, .int 0, .int 0]))] [] sz)) (va_Qv (fun (_ : Unit) => True) (fun (_ : Unit) t => ∃ (qd : Nat) (cD : ClassId) (qb : Nat) (qy : Nat) (cB : ClassId) (qf : Nat) (qz : Nat) (qc : Nat) (qm : Nat) (qw : Nat) (qp : Nat), at_E (dC, dI) (va_A [(h0, .inr (0, [.null, .null, .null, .null, .null, .null, .null, .int 0, .int 0]))] sz) [(h0, .inr (0, [.ref qd, .ref qb, .ref qf, .ref qc, .ref qm, .ref qw, .ref qp, .int 0, .int (-1)])), (qd, .inl (cD, 8, .inr (.inr (.inr (.inr (fun _ => none)))))), (qb, .inr (1, [.ref qy, .int 0])), (qy, .inl (cB, 256, .inl (fun _ => 0))), (qf, .inr (1, [.ref qz, .int 0])), (qp, .inr (4, [.int 0, .int 0, .int 0]))] [(cD, .object R_D), (cB, .byte)] t) (va_A [(h0, .inr (0, [.null, .null, .null, .null, .null, .null, .null, .int 0, .int 0]))] sz)) 16 1819 (va_A [(h0, .inr (0, [.null, .null, .null, .null, .null, .null, .null, .int 0, .int 0]))] sz) := by
  refine Met.ofW (cc := prog_1_method_1_code) (maxL := 1) (ret := none) (by decide) rfl ?_
  intro p e s m args below meth c s₁ B hml hv
  obtain ⟨rfl, hsz, hP, hK, hD0, hN⟩ := hv
  have hx := B.exec
  have hb := B.bytes
  have hr := B.returns
  have hts := atoms_spec (ws := k_K_init) B.pre
  have hw0 : ∀ w ∈ w0, w.before _ s = true := fun w h => hts w (List.mem_cons_of_mem _ h)
  have hown : s.vm.findClass R_K = some m.cls := findClass_of_methodNamed B.named
  have hlocks := B.notSynchronized
  have hin : meth.name = "<init>" := (name_of_methodNamed B.named B.method).1
  subst hsz
  have hD := hD0.self (sz := s.heap.size)
  generalize hAe : va_A [(h0, .inr (0, [.null, .null, .null, .null, .null, .null, .null, .int 0, .int 0]))] s.heap.size = A at hD ⊢
  have hA : ∀ q : Nat, s.heap.size ≤ q → A q := fun q h => by rw [← hAe]; exact Or.inr h
  have hS : va_S A s.heap s.heap [] := va_S.rf
  have hP : va_P (dC, dI) vwCl [(h0, .inr (0, [.null, .null, .null, .null, .null, .null, .null, .int 0, .int 0]))] s.heap := hP
  have hl := lv_entry ([.ref h0]) (n := 1) (Nat.le_of_ble_eq_true rfl)
  rw [lg_entry_eq]
  generalize (lg_sl ([.ref h0]) ++ List.replicate (1 - (lg_sl ([.ref h0])).length) Slot.unset).toArray = ls at hl ⊢
  have hl : lv_has ls 1 [(0, .ref h0)] := hl
  refine lv_aload_n hx hb d_K_init_0 rfl (lv_at hl 0 rfl) ?_
  refine W.objInit hx hb hown (hw0 (.methodLink R_K 1 objectInit) (List.mem_of_getElem? (i := 77) rfl)) (hw0 (.instanceMethod objectInit) (List.mem_of_getElem? (i := 54) rfl)) (hw0 (.code objectInit ⟨#[0xb1]⟩ 1 none) (List.mem_of_getElem? (i := 55) rfl)) rfl (by rw [hml]; exact hl.1) rfl d_K_init_1 (Nat.le_of_ble_eq_true rfl) (Nat.le_of_ble_eq_true rfl) ?_
  refine W.eq (g2 := F0 m 4 ls []) rfl ?_
  refine lv_aload_n hx hb d_K_init_4 rfl (lv_at hl 0 rfl) ?_
  refine lv_bipush (v := 8) hx hb d_K_init_5 (by decide +kernel) ?_
  refine va_newq (N' := 8) hx hb hown (hw0 (.classLink R_K 9 R_D) (List.mem_of_getElem? (i := 78) rfl)) (hN.2 _ (List.mem_of_getElem? (i := 0) rfl)) hK hP hD hS hA (by decide +kernel) (by decide +kernel) (by decide +kernel) (by decide +kernel) (by decide +kernel) d_K_init_7 (fun q_1 cA_2 H hK hP hD hS => ?_)
  replace hK : va_K (dC, dI) vwCl [(cA_2, .object R_D)] s := hK
  replace hP : va_P (dC, dI) vwCl [(h0, .inr (0, [.null, .null, .null, .null, .null, .null, .null, .int 0, .int 0])), (q_1, .inl (cA_2, 8, .inr (.inr (.inr (.inr (fun _ => none))))))] H := hP
  replace hD : va_D A [(h0, .inr (0, [.null, .null, .null, .null, .null, .null, .null, .int 0, .int 0])), (q_1, .inl (cA_2, 8, .inr (.inr (.inr (.inr (fun _ => none))))))] := hD
  refine W.widen (k := 1) (n := 8) (by decide +kernel) (by decide +kernel) ?_
  refine va_putF (D := (dC, dI)) (ci := 0) (v := .ref q_1) (ty := (.array (.object "TextKeeper$Document"))) (C := R_K) (T := F_K) (N := 9) hx hb hw0 in_K ft_K tk_K nk_K hown hK hP hD hS 0 rfl rfl 0 (by decide) (hw0 (.fieldLink R_K 11 "TextKeeper" "documents" "[LTextKeeper$Document;") (List.mem_of_getElem? (i := 79) rfl)) (fun _ h9 => h9) rfl hin rfl (by decide +kernel) rfl rfl (Nat.le_of_ble_eq_true rfl) d_K_init_10 (fun H locs hP hD hS => ?_)
  replace hP : va_P (dC, dI) vwCl [(h0, .inr (0, [.ref q_1, .null, .null, .null, .null, .null, .null, .int 0, .int 0])), (q_1, .inl (cA_2, 8, .inr (.inr (.inr (.inr (fun _ => none))))))] H := hP
  replace hD : va_D A [(h0, .inr (0, [.ref q_1, .null, .null, .null, .null, .null, .null, .int 0, .int 0])), (q_1, .inl (cA_2, 8, .inr (.inr (.inr (.inr (fun _ => none))))))] := hD
  refine lv_aload_n hx hb d_K_init_13 rfl (lv_at hl 0 rfl) ?_
  refine va_new (ci := 1) (fs := [.null, .int 0]) (C := R_T) (T := F_T) (N := 2) hx hb hw0 in_T ft_T tk_T hown (hw0 (.classLink R_K 15 R_T) (List.mem_of_getElem? (i := 80) rfl)) (hw0 (.instantiable R_T 2) (List.mem_of_getElem? (i := 68) rfl)) (hw0 (.initialized R_T) (List.mem_of_getElem? (i := 69) rfl)) hK hP hD hS hA rfl (fun j hj => nw_T j hj) (by decide +kernel) (by decide +kernel) d_K_init_14 (fun q_3 H hP hD hS => ?_)
  replace hP : va_P (dC, dI) vwCl [(h0, .inr (0, [.ref q_1, .null, .null, .null, .null, .null, .null, .int 0, .int 0])), (q_1, .inl (cA_2, 8, .inr (.inr (.inr (.inr (fun _ => none)))))), (q_3, .inr (1, [.null, .int 0]))] H := hP
  replace hD : va_D A [(h0, .inr (0, [.ref q_1, .null, .null, .null, .null, .null, .null, .int 0, .int 0])), (q_1, .inl (cA_2, 8, .inr (.inr (.inr (.inr (fun _ => none)))))), (q_3, .inr (1, [.null, .int 0]))] := hD
  refine W.widen (k := 2) (n := 10) (by decide +kernel) (by decide +kernel) ?_
  refine lv_dup hx hb d_K_init_17 rfl ?_
  have hPc := hP.sub (ws' := [(q_3, .inr (1, [.null, .int 0]))]) [2] rfl
  have hKc := hK.sub (tys' := []) [] rfl
  have hDc := hD.sub (ws' := [(q_3, .inr (1, [.null, .int 0]))]) [2] (by decide) rfl
  have hFc := va_free (wc := [(q_3, .inr (1, [.null, .int 0]))]) hD hS hA [2] rfl
  refine va_callv (va_runI (As := []) (rest := [.ref q_3, .ref h0]) ⟨hx, hb, hml, hown, hw0⟩ (c_Text_init l dC dI H.size q_3) (cwI 0 hw0 (gd_I 70 rfl) rfl rfl rfl (hw0 (.initialized R_T) (List.mem_of_getElem? (i := 69) rfl)) (hw0 (.methodLink R_K 17 y_T_init) (List.mem_of_getElem? (i := 81) rfl)) (hw0 (.instanceMethod y_T_init) (List.mem_of_getElem? (i := 72) rfl)) rfl (by decide +kernel) ⟨by decide +kernel, by decide +kernel⟩) (prS_E hPc hKc hDc hN) rfl rfl hl.1 rfl (lv_room (Nat.le_of_ble_eq_true rfl)) d_K_init_18 ⟨by decide +kernel, by decide +kernel⟩) hS (fun q _ h => hFc q h) hFc (fun u t H1 locs ht hvm hw hB hz1 hk1 hS => ?_)
  obtain ⟨q1_4, cB_5, hP1, hK1, hD1⟩ := hB
  rw [ht] at hP1
  have hK1 := va_K.moved hvm.symm hK1
  try dsimp only at hw
  obtain ⟨hP, hD⟩ := va_join (wr := [(h0, .inr (0, [.ref q_1, .null, .null, .null, .null, .null, .null, .int 0, .int 0])), (q_1, .inl (cA_2, 8, .inr (.inr (.inr (.inr (fun _ => none))))))]) (w1 := [(q_3, .inr (1, [.ref q1_4, .int 0])), (q1_4, .inl (cB_5, 256, .inl (fun _ => 0)))]) hP hD [2] [0, 1] rfl rfl (by decide) (by decide) hk1 hFc hP1 hD1
  have hK := hK.app (hK1.sub (tys' := [(cB_5, .byte)]) [0] rfl)
  generalize H1 = H at hP hS ⊢
  replace hP : va_P (dC, dI) vwCl [(h0, .inr (0, [.ref q_1, .null, .null, .null, .null, .null, .null, .int 0, .int 0])), (q_1, .inl (cA_2, 8, .inr (.inr (.inr (.inr (fun _ => none)))))), (q_3, .inr (1, [.ref q1_4, .int 0])), (q1_4, .inl (cB_5, 256, .inl (fun _ => 0)))] H := hP
  replace hD : va_D A [(h0, .inr (0, [.ref q_1, .null, .null, .null, .null, .null, .null, .int 0, .int 0])), (q_1, .inl (cA_2, 8, .inr (.inr (.inr (.inr (fun _ => none)))))), (q_3, .inr (1, [.ref q1_4, .int 0])), (q1_4, .inl (cB_5, 256, .inl (fun _ => 0)))] := hD
  replace hK : va_K (dC, dI) vwCl [(cA_2, .object R_D), (cB_5, .byte)] s := hK
  refine W.widen (k := 3) (n := 266) (by decide +kernel) (by decide +kernel) ?_
  refine va_putF (D := (dC, dI)) (ci := 0) (v := .ref q_3) (ty := (.object "TextKeeper$Text")) (C := R_K) (T := F_K) (N := 9) hx hb hw0 in_K ft_K tk_K nk_K hown hK hP hD hS 0 rfl rfl 1 (by decide) (hw0 (.fieldLink R_K 18 "TextKeeper" "buffer" "LTextKeeper$Text;") (List.mem_of_getElem? (i := 82) rfl)) (fun _ h9 => h9) rfl hin rfl (by decide +kernel) rfl rfl (Nat.le_of_ble_eq_true rfl) d_K_init_21 (fun H locs hP hD hS => ?_)
  replace hP : va_P (dC, dI) vwCl [(h0, .inr (0, [.ref q_1, .ref q_3, .null, .null, .null, .null, .null, .int 0, .int 0])), (q_1, .inl (cA_2, 8, .inr (.inr (.inr (.inr (fun _ => none)))))), (q_3, .inr (1, [.ref q1_4, .int 0])), (q1_4, .inl (cB_5, 256, .inl (fun _ => 0)))] H := hP
  replace hD : va_D A [(h0, .inr (0, [.ref q_1, .ref q_3, .null, .null, .null, .null, .null, .int 0, .int 0])), (q_1, .inl (cA_2, 8, .inr (.inr (.inr (.inr (fun _ => none)))))), (q_3, .inr (1, [.ref q1_4, .int 0])), (q1_4, .inl (cB_5, 256, .inl (fun _ => 0)))] := hD
  refine lv_aload_n hx hb d_K_init_24 rfl (lv_at hl 0 rfl) ?_
  refine va_new (ci := 1) (fs := [.null, .int 0]) (C := R_T) (T := F_T) (N := 2) hx hb hw0 in_T ft_T tk_T hown (hw0 (.classLink R_K 15 R_T) (List.mem_of_getElem? (i := 80) rfl)) (hw0 (.instantiable R_T 2) (List.mem_of_getElem? (i := 68) rfl)) (hw0 (.initialized R_T) (List.mem_of_getElem? (i := 69) rfl)) hK hP hD hS hA rfl (fun j hj => nw_T j hj) (by decide +kernel) (by decide +kernel) d_K_init_25 (fun q_7 H hP hD hS => ?_)
  replace hP : va_P (dC, dI) vwCl [(h0, .inr (0, [.ref q_1, .ref q_3, .null, .null, .null, .null, .null, .int 0, .int 0])), (q_1, .inl (cA_2, 8, .inr (.inr (.inr (.inr (fun _ => none)))))), (q_3, .inr (1, [.ref q1_4, .int 0])), (q1_4, .inl (cB_5, 256, .inl (fun _ => 0))), (q_7, .inr (1, [.null, .int 0]))] H := hP
  replace hD : va_D A [(h0, .inr (0, [.ref q_1, .ref q_3, .null, .null, .null, .null, .null, .int 0, .int 0])), (q_1, .inl (cA_2, 8, .inr (.inr (.inr (.inr (fun _ => none)))))), (q_3, .inr (1, [.ref q1_4, .int 0])), (q1_4, .inl (cB_5, 256, .inl (fun _ => 0))), (q_7, .inr (1, [.null, .int 0]))] := hD
  refine W.widen (k := 4) (n := 268) (by decide +kernel) (by decide +kernel) ?_
  refine lv_dup hx hb d_K_init_28 rfl ?_
  have hPc := hP.sub (ws' := [(q_7, .inr (1, [.null, .int 0]))]) [4] rfl
  have hKc := hK.sub (tys' := []) [] rfl
  have hDc := hD.sub (ws' := [(q_7, .inr (1, [.null, .int 0]))]) [4] (by decide) rfl
  have hFc := va_free (wc := [(q_7, .inr (1, [.null, .int 0]))]) hD hS hA [4] rfl
  refine va_callv (va_runI (As := []) (rest := [.ref q_7, .ref h0]) ⟨hx, hb, hml, hown, hw0⟩ (c_Text_init l dC dI H.size q_7) (cwI 0 hw0 (gd_I 70 rfl) rfl rfl rfl (hw0 (.initialized R_T) (List.mem_of_getElem? (i := 69) rfl)) (hw0 (.methodLink R_K 17 y_T_init) (List.mem_of_getElem? (i := 81) rfl)) (hw0 (.instanceMethod y_T_init) (List.mem_of_getElem? (i := 72) rfl)) rfl (by decide +kernel) ⟨by decide +kernel, by decide +kernel⟩) (prS_E hPc hKc hDc hN) rfl rfl hl.1 rfl (lv_room (Nat.le_of_ble_eq_true rfl)) d_K_init_29 ⟨by decide +kernel, by decide +kernel⟩) hS (fun q _ h => hFc q h) hFc (fun u t H1 locs ht hvm hw hB hz1 hk1 hS => ?_)
  obtain ⟨q1_8, cB_9, hP1, hK1, hD1⟩ := hB
  rw [ht] at hP1
  have hK1 := va_K.moved hvm.symm hK1
  try dsimp only at hw
  obtain ⟨hP, hD⟩ := va_join (wr := [(h0, .inr (0, [.ref q_1, .ref q_3, .null, .null, .null, .null, .null, .int 0, .int 0])), (q_1, .inl (cA_2, 8, .inr (.inr (.inr (.inr (fun _ => none)))))), (q_3, .inr (1, [.ref q1_4, .int 0])), (q1_4, .inl (cB_5, 256, .inl (fun _ => 0)))]) (w1 := [(q_7, .inr (1, [.ref q1_8, .int 0])), (q1_8, .inl (cB_9, 256, .inl (fun _ => 0)))]) hP hD [4] [0, 1, 2, 3] rfl rfl (by decide) (by decide) hk1 hFc hP1 hD1
  have hK := hK.app (hK1.sub (tys' := [(cB_9, .byte)]) [0] rfl)
  generalize H1 = H at hP hS ⊢
  replace hP : va_P (dC, dI) vwCl [(h0, .inr (0, [.ref q_1, .ref q_3, .null, .null, .null, .null, .null, .int 0, .int 0])), (q_1, .inl (cA_2, 8, .inr (.inr (.inr (.inr (fun _ => none)))))), (q_3, .inr (1, [.ref q1_4, .int 0])), (q1_4, .inl (cB_5, 256, .inl (fun _ => 0))), (q_7, .inr (1, [.ref q1_8, .int 0])), (q1_8, .inl (cB_9, 256, .inl (fun _ => 0)))] H := hP
  replace hD : va_D A [(h0, .inr (0, [.ref q_1, .ref q_3, .null, .null, .null, .null, .null, .int 0, .int 0])), (q_1, .inl (cA_2, 8, .inr (.inr (.inr (.inr (fun _ => none)))))), (q_3, .inr (1, [.ref q1_4, .int 0])), (q1_4, .inl (cB_5, 256, .inl (fun _ => 0))), (q_7, .inr (1, [.ref q1_8, .int 0])), (q1_8, .inl (cB_9, 256, .inl (fun _ => 0)))] := hD
  replace hK : va_K (dC, dI) vwCl [(cA_2, .object R_D), (cB_5, .byte), (cB_9, .byte)] s := hK
  refine W.widen (k := 5) (n := 524) (by decide +kernel) (by decide +kernel) ?_
  refine va_putF (D := (dC, dI)) (ci := 0) (v := .ref q_7) (ty := (.object "TextKeeper$Text")) (C := R_K) (T := F_K) (N := 9) hx hb hw0 in_K ft_K tk_K nk_K hown hK hP hD hS 0 rfl rfl 2 (by decide) (hw0 (.fieldLink R_K 22 "TextKeeper" "fetched" "LTextKeeper$Text;") (List.mem_of_getElem? (i := 83) rfl)) (fun _ h9 => h9) rfl hin rfl (by decide +kernel) rfl rfl (Nat.le_of_ble_eq_true rfl) d_K_init_32 (fun H locs hP hD hS => ?_)
  replace hP : va_P (dC, dI) vwCl [(h0, .inr (0, [.ref q_1, .ref q_3, .ref q_7, .null, .null, .null, .null, .int 0, .int 0])), (q_1, .inl (cA_2, 8, .inr (.inr (.inr (.inr (fun _ => none)))))), (q_3, .inr (1, [.ref q1_4, .int 0])), (q1_4, .inl (cB_5, 256, .inl (fun _ => 0))), (q_7, .inr (1, [.ref q1_8, .int 0])), (q1_8, .inl (cB_9, 256, .inl (fun _ => 0)))] H := hP
  replace hD : va_D A [(h0, .inr (0, [.ref q_1, .ref q_3, .ref q_7, .null, .null, .null, .null, .int 0, .int 0])), (q_1, .inl (cA_2, 8, .inr (.inr (.inr (.inr (fun _ => none)))))), (q_3, .inr (1, [.ref q1_4, .int 0])), (q1_4, .inl (cB_5, 256, .inl (fun _ => 0))), (q_7, .inr (1, [.ref q1_8, .int 0])), (q1_8, .inl (cB_9, 256, .inl (fun _ => 0)))] := hD
  refine lv_aload_n hx hb d_K_init_35 rfl (lv_at hl 0 rfl) ?_
  refine va_new (ci := 1) (fs := [.null, .int 0]) (C := R_T) (T := F_T) (N := 2) hx hb hw0 in_T ft_T tk_T hown (hw0 (.classLink R_K 15 R_T) (List.mem_of_getElem? (i := 80) rfl)) (hw0 (.instantiable R_T 2) (List.mem_of_getElem? (i := 68) rfl)) (hw0 (.initialized R_T) (List.mem_of_getElem? (i := 69) rfl)) hK hP hD hS hA rfl (fun j hj => nw_T j hj) (by decide +kernel) (by decide +kernel) d_K_init_36 (fun q_11 H hP hD hS => ?_)
  replace hP : va_P (dC, dI) vwCl [(h0, .inr (0, [.ref q_1, .ref q_3, .ref q_7, .null, .null, .null, .null, .int 0, .int 0])), (q_1, .inl (cA_2, 8, .inr (.inr (.inr (.inr (fun _ => none)))))), (q_3, .inr (1, [.ref q1_4, .int 0])), (q1_4, .inl (cB_5, 256, .inl (fun _ => 0))), (q_7, .inr (1, [.ref q1_8, .int 0])), (q1_8, .inl (cB_9, 256, .inl (fun _ => 0))), (q_11, .inr (1, [.null, .int 0]))] H := hP
  replace hD : va_D A [(h0, .inr (0, [.ref q_1, .ref q_3, .ref q_7, .null, .null, .null, .null, .int 0, .int 0])), (q_1, .inl (cA_2, 8, .inr (.inr (.inr (.inr (fun _ => none)))))), (q_3, .inr (1, [.ref q1_4, .int 0])), (q1_4, .inl (cB_5, 256, .inl (fun _ => 0))), (q_7, .inr (1, [.ref q1_8, .int 0])), (q1_8, .inl (cB_9, 256, .inl (fun _ => 0))), (q_11, .inr (1, [.null, .int 0]))] := hD
  refine W.widen (k := 6) (n := 526) (by decide +kernel) (by decide +kernel) ?_
  refine lv_dup hx hb d_K_init_39 rfl ?_
  have hPc := hP.sub (ws' := [(q_11, .inr (1, [.null, .int 0]))]) [6] rfl
  have hKc := hK.sub (tys' := []) [] rfl
  have hDc := hD.sub (ws' := [(q_11, .inr (1, [.null, .int 0]))]) [6] (by decide) rfl
  have hFc := va_free (wc := [(q_11, .inr (1, [.null, .int 0]))]) hD hS hA [6] rfl
  refine va_callv (va_runI (As := []) (rest := [.ref q_11, .ref h0]) ⟨hx, hb, hml, hown, hw0⟩ (c_Text_init l dC dI H.size q_11) (cwI 0 hw0 (gd_I 70 rfl) rfl rfl rfl (hw0 (.initialized R_T) (List.mem_of_getElem? (i := 69) rfl)) (hw0 (.methodLink R_K 17 y_T_init) (List.mem_of_getElem? (i := 81) rfl)) (hw0 (.instanceMethod y_T_init) (List.mem_of_getElem? (i := 72) rfl)) rfl (by decide +kernel) ⟨by decide +kernel, by decide +kernel⟩) (prS_E hPc hKc hDc hN) rfl rfl hl.1 rfl (lv_room (Nat.le_of_ble_eq_true rfl)) d_K_init_40 ⟨by decide +kernel, by decide +kernel⟩) hS (fun q _ h => hFc q h) hFc (fun u t H1 locs ht hvm hw hB hz1 hk1 hS => ?_)
  obtain ⟨q1_12, cB_13, hP1, hK1, hD1⟩ := hB
  rw [ht] at hP1
  have hK1 := va_K.moved hvm.symm hK1
  try dsimp only at hw
  obtain ⟨hP, hD⟩ := va_join (wr := [(h0, .inr (0, [.ref q_1, .ref q_3, .ref q_7, .null, .null, .null, .null, .int 0, .int 0])), (q_1, .inl (cA_2, 8, .inr (.inr (.inr (.inr (fun _ => none)))))), (q_3, .inr (1, [.ref q1_4, .int 0])), (q1_4, .inl (cB_5, 256, .inl (fun _ => 0))), (q_7, .inr (1, [.ref q1_8, .int 0])), (q1_8, .inl (cB_9, 256, .inl (fun _ => 0)))]) (w1 := [(q_11, .inr (1, [.ref q1_12, .int 0])), (q1_12, .inl (cB_13, 256, .inl (fun _ => 0)))]) hP hD [6] [0, 1, 2, 3, 4, 5] rfl rfl (by decide) (by decide) hk1 hFc hP1 hD1
  have hK := hK.app (hK1.sub (tys' := [(cB_13, .byte)]) [0] rfl)
  generalize H1 = H at hP hS ⊢
  replace hP : va_P (dC, dI) vwCl [(h0, .inr (0, [.ref q_1, .ref q_3, .ref q_7, .null, .null, .null, .null, .int 0, .int 0])), (q_1, .inl (cA_2, 8, .inr (.inr (.inr (.inr (fun _ => none)))))), (q_3, .inr (1, [.ref q1_4, .int 0])), (q1_4, .inl (cB_5, 256, .inl (fun _ => 0))), (q_7, .inr (1, [.ref q1_8, .int 0])), (q1_8, .inl (cB_9, 256, .inl (fun _ => 0))), (q_11, .inr (1, [.ref q1_12, .int 0])), (q1_12, .inl (cB_13, 256, .inl (fun _ => 0)))] H := hP
  replace hD : va_D A [(h0, .inr (0, [.ref q_1, .ref q_3, .ref q_7, .null, .null, .null, .null, .int 0, .int 0])), (q_1, .inl (cA_2, 8, .inr (.inr (.inr (.inr (fun _ => none)))))), (q_3, .inr (1, [.ref q1_4, .int 0])), (q1_4, .inl (cB_5, 256, .inl (fun _ => 0))), (q_7, .inr (1, [.ref q1_8, .int 0])), (q1_8, .inl (cB_9, 256, .inl (fun _ => 0))), (q_11, .inr (1, [.ref q1_12, .int 0])), (q1_12, .inl (cB_13, 256, .inl (fun _ => 0)))] := hD
  replace hK : va_K (dC, dI) vwCl [(cA_2, .object R_D), (cB_5, .byte), (cB_9, .byte), (cB_13, .byte)] s := hK
  refine W.widen (k := 7) (n := 782) (by decide +kernel) (by decide +kernel) ?_
  refine va_putF (D := (dC, dI)) (ci := 0) (v := .ref q_11) (ty := (.object "TextKeeper$Text")) (C := R_K) (T := F_K) (N := 9) hx hb hw0 in_K ft_K tk_K nk_K hown hK hP hD hS 0 rfl rfl 3 (by decide) (hw0 (.fieldLink R_K 25 "TextKeeper" "compared" "LTextKeeper$Text;") (List.mem_of_getElem? (i := 84) rfl)) (fun _ h9 => h9) rfl hin rfl (by decide +kernel) rfl rfl (Nat.le_of_ble_eq_true rfl) d_K_init_43 (fun H locs hP hD hS => ?_)
  replace hP : va_P (dC, dI) vwCl [(h0, .inr (0, [.ref q_1, .ref q_3, .ref q_7, .ref q_11, .null, .null, .null, .int 0, .int 0])), (q_1, .inl (cA_2, 8, .inr (.inr (.inr (.inr (fun _ => none)))))), (q_3, .inr (1, [.ref q1_4, .int 0])), (q1_4, .inl (cB_5, 256, .inl (fun _ => 0))), (q_7, .inr (1, [.ref q1_8, .int 0])), (q1_8, .inl (cB_9, 256, .inl (fun _ => 0))), (q_11, .inr (1, [.ref q1_12, .int 0])), (q1_12, .inl (cB_13, 256, .inl (fun _ => 0)))] H := hP
  replace hD : va_D A [(h0, .inr (0, [.ref q_1, .ref q_3, .ref q_7, .ref q_11, .null, .null, .null, .int 0, .int 0])), (q_1, .inl (cA_2, 8, .inr (.inr (.inr (.inr (fun _ => none)))))), (q_3, .inr (1, [.ref q1_4, .int 0])), (q1_4, .inl (cB_5, 256, .inl (fun _ => 0))), (q_7, .inr (1, [.ref q1_8, .int 0])), (q1_8, .inl (cB_9, 256, .inl (fun _ => 0))), (q_11, .inr (1, [.ref q1_12, .int 0])), (q1_12, .inl (cB_13, 256, .inl (fun _ => 0)))] := hD
  refine lv_aload_n hx hb d_K_init_46 rfl (lv_at hl 0 rfl) ?_
  refine va_new (ci := 2) (fs := [.null, .null, .null, .int 0]) (C := R_M) (T := F_M) (N := 4) hx hb hw0 in_M ft_M tk_M hown (hw0 (.classLink R_K 28 R_M) (List.mem_of_getElem? (i := 85) rfl)) (hw0 (.instantiable R_M 4) (List.mem_of_getElem? (i := 86) rfl)) (hw0 (.initialized R_M) (List.mem_of_getElem? (i := 87) rfl)) hK hP hD hS hA rfl (fun j hj => nw_M j hj) (by decide +kernel) (by decide +kernel) d_K_init_47 (fun q_15 H hP hD hS => ?_)
  replace hP : va_P (dC, dI) vwCl [(h0, .inr (0, [.ref q_1, .ref q_3, .ref q_7, .ref q_11, .null, .null, .null, .int 0, .int 0])), (q_1, .inl (cA_2, 8, .inr (.inr (.inr (.inr (fun _ => none)))))), (q_3, .inr (1, [.ref q1_4, .int 0])), (q1_4, .inl (cB_5, 256, .inl (fun _ => 0))), (q_7, .inr (1, [.ref q1_8, .int 0])), (q1_8, .inl (cB_9, 256, .inl (fun _ => 0))), (q_11, .inr (1, [.ref q1_12, .int 0])), (q1_12, .inl (cB_13, 256, .inl (fun _ => 0))), (q_15, .inr (2, [.null, .null, .null, .int 0]))] H := hP
  replace hD : va_D A [(h0, .inr (0, [.ref q_1, .ref q_3, .ref q_7, .ref q_11, .null, .null, .null, .int 0, .int 0])), (q_1, .inl (cA_2, 8, .inr (.inr (.inr (.inr (fun _ => none)))))), (q_3, .inr (1, [.ref q1_4, .int 0])), (q1_4, .inl (cB_5, 256, .inl (fun _ => 0))), (q_7, .inr (1, [.ref q1_8, .int 0])), (q1_8, .inl (cB_9, 256, .inl (fun _ => 0))), (q_11, .inr (1, [.ref q1_12, .int 0])), (q1_12, .inl (cB_13, 256, .inl (fun _ => 0))), (q_15, .inr (2, [.null, .null, .null, .int 0]))] := hD
  refine W.widen (k := 8) (n := 786) (by decide +kernel) (by decide +kernel) ?_
  refine lv_dup hx hb d_K_init_50 rfl ?_
  have hPc := hP.sub (ws' := [(q_15, .inr (2, [.null, .null, .null, .int 0]))]) [8] rfl
  have hKc := hK.sub (tys' := []) [] rfl
  have hDc := hD.sub (ws' := [(q_15, .inr (2, [.null, .null, .null, .int 0]))]) [8] (by decide) rfl
  have hFc := va_free (wc := [(q_15, .inr (2, [.null, .null, .null, .int 0]))]) hD hS hA [8] rfl
  refine va_callv (va_runI (As := []) (rest := [.ref q_15, .ref h0]) ⟨hx, hb, hml, hown, hw0⟩ (c_Maker_init l dC dI H.size q_15) (cwI 0 hw0 (gd_I 88 rfl) rfl rfl rfl (hw0 (.initialized R_M) (List.mem_of_getElem? (i := 87) rfl)) (hw0 (.methodLink R_K 30 y_M_init) (List.mem_of_getElem? (i := 89) rfl)) (hw0 (.instanceMethod y_M_init) (List.mem_of_getElem? (i := 90) rfl)) rfl (by decide +kernel) ⟨by decide +kernel, by decide +kernel⟩) (prS_E hPc hKc hDc hN) rfl rfl hl.1 rfl (lv_room (Nat.le_of_ble_eq_true rfl)) d_K_init_51 ⟨by decide +kernel, by decide +kernel⟩) hS (fun q _ h => hFc q h) hFc (fun u t H1 locs ht hvm hw hB hz1 hk1 hS => ?_)
  obtain ⟨q1_16, q2_17, q3_18, hP1, hK1, hD1⟩ := hB
  rw [ht] at hP1
  have hK1 := va_K.moved hvm.symm hK1
  try dsimp only at hw
  obtain ⟨hP, hD⟩ := va_join (wr := [(h0, .inr (0, [.ref q_1, .ref q_3, .ref q_7, .ref q_11, .null, .null, .null, .int 0, .int 0])), (q_1, .inl (cA_2, 8, .inr (.inr (.inr (.inr (fun _ => none)))))), (q_3, .inr (1, [.ref q1_4, .int 0])), (q1_4, .inl (cB_5, 256, .inl (fun _ => 0))), (q_7, .inr (1, [.ref q1_8, .int 0])), (q1_8, .inl (cB_9, 256, .inl (fun _ => 0))), (q_11, .inr (1, [.ref q1_12, .int 0])), (q1_12, .inl (cB_13, 256, .inl (fun _ => 0)))]) (w1 := [(q_15, .inr (2, [.ref q1_16, .ref q2_17, .ref q3_18, .int 0]))]) hP hD [8] [0, 1, 2, 3, 4, 5, 6, 7] rfl rfl (by decide) (by decide) hk1 hFc hP1 hD1
  generalize H1 = H at hP hS ⊢
  replace hP : va_P (dC, dI) vwCl [(h0, .inr (0, [.ref q_1, .ref q_3, .ref q_7, .ref q_11, .null, .null, .null, .int 0, .int 0])), (q_1, .inl (cA_2, 8, .inr (.inr (.inr (.inr (fun _ => none)))))), (q_3, .inr (1, [.ref q1_4, .int 0])), (q1_4, .inl (cB_5, 256, .inl (fun _ => 0))), (q_7, .inr (1, [.ref q1_8, .int 0])), (q1_8, .inl (cB_9, 256, .inl (fun _ => 0))), (q_11, .inr (1, [.ref q1_12, .int 0])), (q1_12, .inl (cB_13, 256, .inl (fun _ => 0))), (q_15, .inr (2, [.ref q1_16, .ref q2_17, .ref q3_18, .int 0]))] H := hP
  replace hD : va_D A [(h0, .inr (0, [.ref q_1, .ref q_3, .ref q_7, .ref q_11, .null, .null, .null, .int 0, .int 0])), (q_1, .inl (cA_2, 8, .inr (.inr (.inr (.inr (fun _ => none)))))), (q_3, .inr (1, [.ref q1_4, .int 0])), (q1_4, .inl (cB_5, 256, .inl (fun _ => 0))), (q_7, .inr (1, [.ref q1_8, .int 0])), (q1_8, .inl (cB_9, 256, .inl (fun _ => 0))), (q_11, .inr (1, [.ref q1_12, .int 0])), (q1_12, .inl (cB_13, 256, .inl (fun _ => 0))), (q_15, .inr (2, [.ref q1_16, .ref q2_17, .ref q3_18, .int 0]))] := hD
  replace hK : va_K (dC, dI) vwCl [(cA_2, .object R_D), (cB_5, .byte), (cB_9, .byte), (cB_13, .byte)] s := hK
  refine W.widen (k := 13) (n := 1302) (by decide +kernel) (by decide +kernel) ?_
  refine va_putF (D := (dC, dI)) (ci := 0) (v := .ref q_15) (ty := (.object "TextKeeper$Maker")) (C := R_K) (T := F_K) (N := 9) hx hb hw0 in_K ft_K tk_K nk_K hown hK hP hD hS 0 rfl rfl 4 (by decide) (hw0 (.fieldLink R_K 31 "TextKeeper" "maker" "LTextKeeper$Maker;") (List.mem_of_getElem? (i := 91) rfl)) (fun _ h9 => h9) rfl hin rfl (by decide +kernel) rfl rfl (Nat.le_of_ble_eq_true rfl) d_K_init_54 (fun H locs hP hD hS => ?_)
  replace hP : va_P (dC, dI) vwCl [(h0, .inr (0, [.ref q_1, .ref q_3, .ref q_7, .ref q_11, .ref q_15, .null, .null, .int 0, .int 0])), (q_1, .inl (cA_2, 8, .inr (.inr (.inr (.inr (fun _ => none)))))), (q_3, .inr (1, [.ref q1_4, .int 0])), (q1_4, .inl (cB_5, 256, .inl (fun _ => 0))), (q_7, .inr (1, [.ref q1_8, .int 0])), (q1_8, .inl (cB_9, 256, .inl (fun _ => 0))), (q_11, .inr (1, [.ref q1_12, .int 0])), (q1_12, .inl (cB_13, 256, .inl (fun _ => 0))), (q_15, .inr (2, [.ref q1_16, .ref q2_17, .ref q3_18, .int 0]))] H := hP
  replace hD : va_D A [(h0, .inr (0, [.ref q_1, .ref q_3, .ref q_7, .ref q_11, .ref q_15, .null, .null, .int 0, .int 0])), (q_1, .inl (cA_2, 8, .inr (.inr (.inr (.inr (fun _ => none)))))), (q_3, .inr (1, [.ref q1_4, .int 0])), (q1_4, .inl (cB_5, 256, .inl (fun _ => 0))), (q_7, .inr (1, [.ref q1_8, .int 0])), (q1_8, .inl (cB_9, 256, .inl (fun _ => 0))), (q_11, .inr (1, [.ref q1_12, .int 0])), (q1_12, .inl (cB_13, 256, .inl (fun _ => 0))), (q_15, .inr (2, [.ref q1_16, .ref q2_17, .ref q3_18, .int 0]))] := hD
  refine lv_aload_n hx hb d_K_init_57 rfl (lv_at hl 0 rfl) ?_
  refine va_new (ci := 3) (fs := [.null, .int 0]) (C := R_W) (T := F_W) (N := 2) hx hb hw0 in_W ft_W tk_W hown (hw0 (.classLink R_K 35 R_W) (List.mem_of_getElem? (i := 92) rfl)) (hw0 (.instantiable R_W 2) (List.mem_of_getElem? (i := 93) rfl)) (hw0 (.initialized R_W) (List.mem_of_getElem? (i := 94) rfl)) hK hP hD hS hA rfl (fun j hj => nw_W j hj) (by decide +kernel) (by decide +kernel) d_K_init_58 (fun q_20 H hP hD hS => ?_)
  replace hP : va_P (dC, dI) vwCl [(h0, .inr (0, [.ref q_1, .ref q_3, .ref q_7, .ref q_11, .ref q_15, .null, .null, .int 0, .int 0])), (q_1, .inl (cA_2, 8, .inr (.inr (.inr (.inr (fun _ => none)))))), (q_3, .inr (1, [.ref q1_4, .int 0])), (q1_4, .inl (cB_5, 256, .inl (fun _ => 0))), (q_7, .inr (1, [.ref q1_8, .int 0])), (q1_8, .inl (cB_9, 256, .inl (fun _ => 0))), (q_11, .inr (1, [.ref q1_12, .int 0])), (q1_12, .inl (cB_13, 256, .inl (fun _ => 0))), (q_15, .inr (2, [.ref q1_16, .ref q2_17, .ref q3_18, .int 0])), (q_20, .inr (3, [.null, .int 0]))] H := hP
  replace hD : va_D A [(h0, .inr (0, [.ref q_1, .ref q_3, .ref q_7, .ref q_11, .ref q_15, .null, .null, .int 0, .int 0])), (q_1, .inl (cA_2, 8, .inr (.inr (.inr (.inr (fun _ => none)))))), (q_3, .inr (1, [.ref q1_4, .int 0])), (q1_4, .inl (cB_5, 256, .inl (fun _ => 0))), (q_7, .inr (1, [.ref q1_8, .int 0])), (q1_8, .inl (cB_9, 256, .inl (fun _ => 0))), (q_11, .inr (1, [.ref q1_12, .int 0])), (q1_12, .inl (cB_13, 256, .inl (fun _ => 0))), (q_15, .inr (2, [.ref q1_16, .ref q2_17, .ref q3_18, .int 0])), (q_20, .inr (3, [.null, .int 0]))] := hD
  refine W.widen (k := 14) (n := 1304) (by decide +kernel) (by decide +kernel) ?_
  refine lv_dup hx hb d_K_init_61 rfl ?_
  have hPc := hP.sub (ws' := [(q_20, .inr (3, [.null, .int 0]))]) [9] rfl
  have hKc := hK.sub (tys' := []) [] rfl
  have hDc := hD.sub (ws' := [(q_20, .inr (3, [.null, .int 0]))]) [9] (by decide) rfl
  have hFc := va_free (wc := [(q_20, .inr (3, [.null, .int 0]))]) hD hS hA [9] rfl
  refine va_callv (va_runI (As := []) (rest := [.ref q_20, .ref h0]) ⟨hx, hb, hml, hown, hw0⟩ (c_PieceWriter_init l dC dI H.size q_20) (cwI 0 hw0 (gd_I 95 rfl) rfl rfl rfl (hw0 (.initialized R_W) (List.mem_of_getElem? (i := 94) rfl)) (hw0 (.methodLink R_K 37 y_W_init) (List.mem_of_getElem? (i := 96) rfl)) (hw0 (.instanceMethod y_W_init) (List.mem_of_getElem? (i := 97) rfl)) rfl (by decide +kernel) ⟨by decide +kernel, by decide +kernel⟩) (prS_E hPc hKc hDc hN) rfl rfl hl.1 rfl (lv_room (Nat.le_of_ble_eq_true rfl)) d_K_init_62 ⟨by decide +kernel, by decide +kernel⟩) hS (fun q _ h => hFc q h) hFc (fun u t H1 locs ht hvm hw hB hz1 hk1 hS => ?_)
  obtain ⟨q1_21, hP1, hK1, hD1⟩ := hB
  rw [ht] at hP1
  have hK1 := va_K.moved hvm.symm hK1
  try dsimp only at hw
  obtain ⟨hP, hD⟩ := va_join (wr := [(h0, .inr (0, [.ref q_1, .ref q_3, .ref q_7, .ref q_11, .ref q_15, .null, .null, .int 0, .int 0])), (q_1, .inl (cA_2, 8, .inr (.inr (.inr (.inr (fun _ => none)))))), (q_3, .inr (1, [.ref q1_4, .int 0])), (q1_4, .inl (cB_5, 256, .inl (fun _ => 0))), (q_7, .inr (1, [.ref q1_8, .int 0])), (q1_8, .inl (cB_9, 256, .inl (fun _ => 0))), (q_11, .inr (1, [.ref q1_12, .int 0])), (q1_12, .inl (cB_13, 256, .inl (fun _ => 0))), (q_15, .inr (2, [.ref q1_16, .ref q2_17, .ref q3_18, .int 0]))]) (w1 := [(q_20, .inr (3, [.ref q1_21, .int 0]))]) hP hD [9] [0, 1, 2, 3, 4, 5, 6, 7, 8] rfl rfl (by decide) (by decide) hk1 hFc hP1 hD1
  generalize H1 = H at hP hS ⊢
  replace hP : va_P (dC, dI) vwCl [(h0, .inr (0, [.ref q_1, .ref q_3, .ref q_7, .ref q_11, .ref q_15, .null, .null, .int 0, .int 0])), (q_1, .inl (cA_2, 8, .inr (.inr (.inr (.inr (fun _ => none)))))), (q_3, .inr (1, [.ref q1_4, .int 0])), (q1_4, .inl (cB_5, 256, .inl (fun _ => 0))), (q_7, .inr (1, [.ref q1_8, .int 0])), (q1_8, .inl (cB_9, 256, .inl (fun _ => 0))), (q_11, .inr (1, [.ref q1_12, .int 0])), (q1_12, .inl (cB_13, 256, .inl (fun _ => 0))), (q_15, .inr (2, [.ref q1_16, .ref q2_17, .ref q3_18, .int 0])), (q_20, .inr (3, [.ref q1_21, .int 0]))] H := hP
  replace hD : va_D A [(h0, .inr (0, [.ref q_1, .ref q_3, .ref q_7, .ref q_11, .ref q_15, .null, .null, .int 0, .int 0])), (q_1, .inl (cA_2, 8, .inr (.inr (.inr (.inr (fun _ => none)))))), (q_3, .inr (1, [.ref q1_4, .int 0])), (q1_4, .inl (cB_5, 256, .inl (fun _ => 0))), (q_7, .inr (1, [.ref q1_8, .int 0])), (q1_8, .inl (cB_9, 256, .inl (fun _ => 0))), (q_11, .inr (1, [.ref q1_12, .int 0])), (q1_12, .inl (cB_13, 256, .inl (fun _ => 0))), (q_15, .inr (2, [.ref q1_16, .ref q2_17, .ref q3_18, .int 0])), (q_20, .inr (3, [.ref q1_21, .int 0]))] := hD
  replace hK : va_K (dC, dI) vwCl [(cA_2, .object R_D), (cB_5, .byte), (cB_9, .byte), (cB_13, .byte)] s := hK
  refine W.widen (k := 15) (n := 1816) (by decide +kernel) (by decide +kernel) ?_
  refine va_putF (D := (dC, dI)) (ci := 0) (v := .ref q_20) (ty := (.object "TextKeeper$PieceWriter")) (C := R_K) (T := F_K) (N := 9) hx hb hw0 in_K ft_K tk_K nk_K hown hK hP hD hS 0 rfl rfl 5 (by decide) (hw0 (.fieldLink R_K 38 "TextKeeper" "writer" "LTextKeeper$PieceWriter;") (List.mem_of_getElem? (i := 98) rfl)) (fun _ h9 => h9) rfl hin rfl (by decide +kernel) rfl rfl (Nat.le_of_ble_eq_true rfl) d_K_init_65 (fun H locs hP hD hS => ?_)
  replace hP : va_P (dC, dI) vwCl [(h0, .inr (0, [.ref q_1, .ref q_3, .ref q_7, .ref q_11, .ref q_15, .ref q_20, .null, .int 0, .int 0])), (q_1, .inl (cA_2, 8, .inr (.inr (.inr (.inr (fun _ => none)))))), (q_3, .inr (1, [.ref q1_4, .int 0])), (q1_4, .inl (cB_5, 256, .inl (fun _ => 0))), (q_7, .inr (1, [.ref q1_8, .int 0])), (q1_8, .inl (cB_9, 256, .inl (fun _ => 0))), (q_11, .inr (1, [.ref q1_12, .int 0])), (q1_12, .inl (cB_13, 256, .inl (fun _ => 0))), (q_15, .inr (2, [.ref q1_16, .ref q2_17, .ref q3_18, .int 0])), (q_20, .inr (3, [.ref q1_21, .int 0]))] H := hP
  replace hD : va_D A [(h0, .inr (0, [.ref q_1, .ref q_3, .ref q_7, .ref q_11, .ref q_15, .ref q_20, .null, .int 0, .int 0])), (q_1, .inl (cA_2, 8, .inr (.inr (.inr (.inr (fun _ => none)))))), (q_3, .inr (1, [.ref q1_4, .int 0])), (q1_4, .inl (cB_5, 256, .inl (fun _ => 0))), (q_7, .inr (1, [.ref q1_8, .int 0])), (q1_8, .inl (cB_9, 256, .inl (fun _ => 0))), (q_11, .inr (1, [.ref q1_12, .int 0])), (q1_12, .inl (cB_13, 256, .inl (fun _ => 0))), (q_15, .inr (2, [.ref q1_16, .ref q2_17, .ref q3_18, .int 0])), (q_20, .inr (3, [.ref q1_21, .int 0]))] := hD
  refine lv_aload_n hx hb d_K_init_68 rfl (lv_at hl 0 rfl) ?_
  refine va_new (ci := 4) (fs := [.int 0, .int 0, .int 0]) (C := R_P) (T := F_P) (N := 3) hx hb hw0 in_P ft_P tk_P hown (hw0 (.classLink R_K 42 R_P) (List.mem_of_getElem? (i := 99) rfl)) (hw0 (.instantiable R_P 3) (List.mem_of_getElem? (i := 100) rfl)) (hw0 (.initialized R_P) (List.mem_of_getElem? (i := 101) rfl)) hK hP hD hS hA rfl (fun j hj => nw_P j hj) (by decide +kernel) (by decide +kernel) d_K_init_69 (fun q_23 H hP hD hS => ?_)
  replace hP : va_P (dC, dI) vwCl [(h0, .inr (0, [.ref q_1, .ref q_3, .ref q_7, .ref q_11, .ref q_15, .ref q_20, .null, .int 0, .int 0])), (q_1, .inl (cA_2, 8, .inr (.inr (.inr (.inr (fun _ => none)))))), (q_3, .inr (1, [.ref q1_4, .int 0])), (q1_4, .inl (cB_5, 256, .inl (fun _ => 0))), (q_7, .inr (1, [.ref q1_8, .int 0])), (q1_8, .inl (cB_9, 256, .inl (fun _ => 0))), (q_11, .inr (1, [.ref q1_12, .int 0])), (q1_12, .inl (cB_13, 256, .inl (fun _ => 0))), (q_15, .inr (2, [.ref q1_16, .ref q2_17, .ref q3_18, .int 0])), (q_20, .inr (3, [.ref q1_21, .int 0])), (q_23, .inr (4, [.int 0, .int 0, .int 0]))] H := hP
  replace hD : va_D A [(h0, .inr (0, [.ref q_1, .ref q_3, .ref q_7, .ref q_11, .ref q_15, .ref q_20, .null, .int 0, .int 0])), (q_1, .inl (cA_2, 8, .inr (.inr (.inr (.inr (fun _ => none)))))), (q_3, .inr (1, [.ref q1_4, .int 0])), (q1_4, .inl (cB_5, 256, .inl (fun _ => 0))), (q_7, .inr (1, [.ref q1_8, .int 0])), (q1_8, .inl (cB_9, 256, .inl (fun _ => 0))), (q_11, .inr (1, [.ref q1_12, .int 0])), (q1_12, .inl (cB_13, 256, .inl (fun _ => 0))), (q_15, .inr (2, [.ref q1_16, .ref q2_17, .ref q3_18, .int 0])), (q_20, .inr (3, [.ref q1_21, .int 0])), (q_23, .inr (4, [.int 0, .int 0, .int 0]))] := hD
  refine W.widen (k := 16) (n := 1819) (by decide +kernel) (by decide +kernel) ?_
  refine lv_dup hx hb d_K_init_72 rfl ?_
  have hPc := hP.sub (ws' := [(q_23, .inr (4, [.int 0, .int 0, .int 0]))]) [10] rfl
  have hKc := hK.sub (tys' := []) [] rfl
  have hDc := hD.sub (ws' := [(q_23, .inr (4, [.int 0, .int 0, .int 0]))]) [10] (by decide) rfl
  have hFc := va_free (wc := [(q_23, .inr (4, [.int 0, .int 0, .int 0]))]) hD hS hA [10] rfl
  refine va_callv (va_runI (As := []) (rest := [.ref q_23, .ref h0]) ⟨hx, hb, hml, hown, hw0⟩ (c_Power_init l dC dI H.size q_23) (cwI 0 hw0 (gd_I 102 rfl) rfl rfl rfl (hw0 (.initialized R_P) (List.mem_of_getElem? (i := 101) rfl)) (hw0 (.methodLink R_K 44 y_P_init) (List.mem_of_getElem? (i := 103) rfl)) (hw0 (.instanceMethod y_P_init) (List.mem_of_getElem? (i := 104) rfl)) rfl (by decide +kernel) ⟨by decide +kernel, by decide +kernel⟩) (prS_E hPc hKc hDc hN) rfl rfl hl.1 rfl (lv_room (Nat.le_of_ble_eq_true rfl)) d_K_init_73 ⟨by decide +kernel, by decide +kernel⟩) hS (fun q _ h => hFc q h) hFc (fun u t H1 locs ht hvm hw hB hz1 hk1 hS => ?_)
  obtain ⟨hP1, hK1, hD1⟩ := hB
  rw [ht] at hP1
  have hK1 := va_K.moved hvm.symm hK1
  try dsimp only at hw
  obtain ⟨hP, hD⟩ := va_join (wr := [(h0, .inr (0, [.ref q_1, .ref q_3, .ref q_7, .ref q_11, .ref q_15, .ref q_20, .null, .int 0, .int 0])), (q_1, .inl (cA_2, 8, .inr (.inr (.inr (.inr (fun _ => none)))))), (q_3, .inr (1, [.ref q1_4, .int 0])), (q1_4, .inl (cB_5, 256, .inl (fun _ => 0))), (q_7, .inr (1, [.ref q1_8, .int 0])), (q1_8, .inl (cB_9, 256, .inl (fun _ => 0))), (q_11, .inr (1, [.ref q1_12, .int 0])), (q1_12, .inl (cB_13, 256, .inl (fun _ => 0))), (q_15, .inr (2, [.ref q1_16, .ref q2_17, .ref q3_18, .int 0])), (q_20, .inr (3, [.ref q1_21, .int 0]))]) (w1 := [(q_23, .inr (4, [.int 0, .int 0, .int 0]))]) hP hD [10] [0, 1, 2, 3, 4, 5, 6, 7, 8, 9] rfl rfl (by decide) (by decide) hk1 hFc hP1 hD1
  generalize H1 = H at hP hS ⊢
  replace hP : va_P (dC, dI) vwCl [(h0, .inr (0, [.ref q_1, .ref q_3, .ref q_7, .ref q_11, .ref q_15, .ref q_20, .null, .int 0, .int 0])), (q_1, .inl (cA_2, 8, .inr (.inr (.inr (.inr (fun _ => none)))))), (q_3, .inr (1, [.ref q1_4, .int 0])), (q1_4, .inl (cB_5, 256, .inl (fun _ => 0))), (q_7, .inr (1, [.ref q1_8, .int 0])), (q1_8, .inl (cB_9, 256, .inl (fun _ => 0))), (q_11, .inr (1, [.ref q1_12, .int 0])), (q1_12, .inl (cB_13, 256, .inl (fun _ => 0))), (q_15, .inr (2, [.ref q1_16, .ref q2_17, .ref q3_18, .int 0])), (q_20, .inr (3, [.ref q1_21, .int 0])), (q_23, .inr (4, [.int 0, .int 0, .int 0]))] H := hP
  replace hD : va_D A [(h0, .inr (0, [.ref q_1, .ref q_3, .ref q_7, .ref q_11, .ref q_15, .ref q_20, .null, .int 0, .int 0])), (q_1, .inl (cA_2, 8, .inr (.inr (.inr (.inr (fun _ => none)))))), (q_3, .inr (1, [.ref q1_4, .int 0])), (q1_4, .inl (cB_5, 256, .inl (fun _ => 0))), (q_7, .inr (1, [.ref q1_8, .int 0])), (q1_8, .inl (cB_9, 256, .inl (fun _ => 0))), (q_11, .inr (1, [.ref q1_12, .int 0])), (q1_12, .inl (cB_13, 256, .inl (fun _ => 0))), (q_15, .inr (2, [.ref q1_16, .ref q2_17, .ref q3_18, .int 0])), (q_20, .inr (3, [.ref q1_21, .int 0])), (q_23, .inr (4, [.int 0, .int 0, .int 0]))] := hD
  replace hK : va_K (dC, dI) vwCl [(cA_2, .object R_D), (cB_5, .byte), (cB_9, .byte), (cB_13, .byte)] s := hK
  refine va_putF (D := (dC, dI)) (ci := 0) (v := .ref q_23) (ty := (.object "TextKeeper$Power")) (C := R_K) (T := F_K) (N := 9) hx hb hw0 in_K ft_K tk_K nk_K hown hK hP hD hS 0 rfl rfl 6 (by decide) (hw0 (.fieldLink R_K 45 "TextKeeper" "power" "LTextKeeper$Power;") (List.mem_of_getElem? (i := 105) rfl)) (fun _ h9 => h9) rfl hin rfl (by decide +kernel) rfl rfl (Nat.le_of_ble_eq_true rfl) d_K_init_76 (fun H locs hP hD hS => ?_)
  replace hP : va_P (dC, dI) vwCl [(h0, .inr (0, [.ref q_1, .ref q_3, .ref q_7, .ref q_11, .ref q_15, .ref q_20, .ref q_23, .int 0, .int 0])), (q_1, .inl (cA_2, 8, .inr (.inr (.inr (.inr (fun _ => none)))))), (q_3, .inr (1, [.ref q1_4, .int 0])), (q1_4, .inl (cB_5, 256, .inl (fun _ => 0))), (q_7, .inr (1, [.ref q1_8, .int 0])), (q1_8, .inl (cB_9, 256, .inl (fun _ => 0))), (q_11, .inr (1, [.ref q1_12, .int 0])), (q1_12, .inl (cB_13, 256, .inl (fun _ => 0))), (q_15, .inr (2, [.ref q1_16, .ref q2_17, .ref q3_18, .int 0])), (q_20, .inr (3, [.ref q1_21, .int 0])), (q_23, .inr (4, [.int 0, .int 0, .int 0]))] H := hP
  replace hD : va_D A [(h0, .inr (0, [.ref q_1, .ref q_3, .ref q_7, .ref q_11, .ref q_15, .ref q_20, .ref q_23, .int 0, .int 0])), (q_1, .inl (cA_2, 8, .inr (.inr (.inr (.inr (fun _ => none)))))), (q_3, .inr (1, [.ref q1_4, .int 0])), (q1_4, .inl (cB_5, 256, .inl (fun _ => 0))), (q_7, .inr (1, [.ref q1_8, .int 0])), (q1_8, .inl (cB_9, 256, .inl (fun _ => 0))), (q_11, .inr (1, [.ref q1_12, .int 0])), (q1_12, .inl (cB_13, 256, .inl (fun _ => 0))), (q_15, .inr (2, [.ref q1_16, .ref q2_17, .ref q3_18, .int 0])), (q_20, .inr (3, [.ref q1_21, .int 0])), (q_23, .inr (4, [.int 0, .int 0, .int 0]))] := hD
  refine lv_aload_n hx hb d_K_init_79 rfl (lv_at hl 0 rfl) ?_
  refine lv_iconst (v := 0) hx hb d_K_init_80 (by decide) ?_
  refine va_put (D := (dC, dI)) (ci := 0) (v := .int 0) (ty := .int) (C := R_K) (T := F_K) (N := 9) hx hb hw0 in_K ft_K tk_K nk_K hown hK hP hD hS 0 rfl rfl 7 (by decide) (hw0 (.fieldLink R_K 49 "TextKeeper" "madeDocuments" "I") (List.mem_of_getElem? (i := 106) rfl)) (fun _ h9 => h9) rfl (by decide +kernel) rfl rfl (Nat.le_of_ble_eq_true rfl) d_K_init_81 (fun H locs hP hD hS => ?_)
  replace hP : va_P (dC, dI) vwCl [(h0, .inr (0, [.ref q_1, .ref q_3, .ref q_7, .ref q_11, .ref q_15, .ref q_20, .ref q_23, .int 0, .int 0])), (q_1, .inl (cA_2, 8, .inr (.inr (.inr (.inr (fun _ => none)))))), (q_3, .inr (1, [.ref q1_4, .int 0])), (q1_4, .inl (cB_5, 256, .inl (fun _ => 0))), (q_7, .inr (1, [.ref q1_8, .int 0])), (q1_8, .inl (cB_9, 256, .inl (fun _ => 0))), (q_11, .inr (1, [.ref q1_12, .int 0])), (q1_12, .inl (cB_13, 256, .inl (fun _ => 0))), (q_15, .inr (2, [.ref q1_16, .ref q2_17, .ref q3_18, .int 0])), (q_20, .inr (3, [.ref q1_21, .int 0])), (q_23, .inr (4, [.int 0, .int 0, .int 0]))] H := hP
  replace hD : va_D A [(h0, .inr (0, [.ref q_1, .ref q_3, .ref q_7, .ref q_11, .ref q_15, .ref q_20, .ref q_23, .int 0, .int 0])), (q_1, .inl (cA_2, 8, .inr (.inr (.inr (.inr (fun _ => none)))))), (q_3, .inr (1, [.ref q1_4, .int 0])), (q1_4, .inl (cB_5, 256, .inl (fun _ => 0))), (q_7, .inr (1, [.ref q1_8, .int 0])), (q1_8, .inl (cB_9, 256, .inl (fun _ => 0))), (q_11, .inr (1, [.ref q1_12, .int 0])), (q1_12, .inl (cB_13, 256, .inl (fun _ => 0))), (q_15, .inr (2, [.ref q1_16, .ref q2_17, .ref q3_18, .int 0])), (q_20, .inr (3, [.ref q1_21, .int 0])), (q_23, .inr (4, [.int 0, .int 0, .int 0]))] := hD
  refine lv_aload_n hx hb d_K_init_84 rfl (lv_at hl 0 rfl) ?_
  refine lv_iconst (v := (-1)) hx hb d_K_init_85 (by decide) ?_
  refine va_put (D := (dC, dI)) (ci := 0) (v := .int (-1)) (ty := .int) (C := R_K) (T := F_K) (N := 9) hx hb hw0 in_K ft_K tk_K nk_K hown hK hP hD hS 0 rfl rfl 8 (by decide) (hw0 (.fieldLink R_K 53 "TextKeeper" "fetchedSteps" "I") (List.mem_of_getElem? (i := 107) rfl)) (fun _ h9 => h9) rfl (by decide +kernel) rfl rfl (Nat.le_of_ble_eq_true rfl) d_K_init_86 (fun H locs hP hD hS => ?_)
  replace hP : va_P (dC, dI) vwCl [(h0, .inr (0, [.ref q_1, .ref q_3, .ref q_7, .ref q_11, .ref q_15, .ref q_20, .ref q_23, .int 0, .int (-1)])), (q_1, .inl (cA_2, 8, .inr (.inr (.inr (.inr (fun _ => none)))))), (q_3, .inr (1, [.ref q1_4, .int 0])), (q1_4, .inl (cB_5, 256, .inl (fun _ => 0))), (q_7, .inr (1, [.ref q1_8, .int 0])), (q1_8, .inl (cB_9, 256, .inl (fun _ => 0))), (q_11, .inr (1, [.ref q1_12, .int 0])), (q1_12, .inl (cB_13, 256, .inl (fun _ => 0))), (q_15, .inr (2, [.ref q1_16, .ref q2_17, .ref q3_18, .int 0])), (q_20, .inr (3, [.ref q1_21, .int 0])), (q_23, .inr (4, [.int 0, .int 0, .int 0]))] H := hP
  replace hD : va_D A [(h0, .inr (0, [.ref q_1, .ref q_3, .ref q_7, .ref q_11, .ref q_15, .ref q_20, .ref q_23, .int 0, .int (-1)])), (q_1, .inl (cA_2, 8, .inr (.inr (.inr (.inr (fun _ => none)))))), (q_3, .inr (1, [.ref q1_4, .int 0])), (q1_4, .inl (cB_5, 256, .inl (fun _ => 0))), (q_7, .inr (1, [.ref q1_8, .int 0])), (q1_8, .inl (cB_9, 256, .inl (fun _ => 0))), (q_11, .inr (1, [.ref q1_12, .int 0])), (q1_12, .inl (cB_13, 256, .inl (fun _ => 0))), (q_15, .inr (2, [.ref q1_16, .ref q2_17, .ref q3_18, .int 0])), (q_20, .inr (3, [.ref q1_21, .int 0])), (q_23, .inr (4, [.int 0, .int 0, .int 0]))] := hD
  have hP9 := hP.sub (ws' := [(h0, .inr (0, [.ref q_1, .ref q_3, .ref q_7, .ref q_11, .ref q_15, .ref q_20, .ref q_23, .int 0, .int (-1)])), (q_1, .inl (cA_2, 8, .inr (.inr (.inr (.inr (fun _ => none)))))), (q_3, .inr (1, [.ref q1_4, .int 0])), (q1_4, .inl (cB_5, 256, .inl (fun _ => 0))), (q_7, .inr (1, [.ref q1_8, .int 0])), (q_23, .inr (4, [.int 0, .int 0, .int 0]))]) [0, 1, 2, 3, 4, 10] rfl
  have hD9 := hD.sub (ws' := [(h0, .inr (0, [.ref q_1, .ref q_3, .ref q_7, .ref q_11, .ref q_15, .ref q_20, .ref q_23, .int 0, .int (-1)])), (q_1, .inl (cA_2, 8, .inr (.inr (.inr (.inr (fun _ => none)))))), (q_3, .inr (1, [.ref q1_4, .int 0])), (q1_4, .inl (cB_5, 256, .inl (fun _ => 0))), (q_7, .inr (1, [.ref q1_8, .int 0])), (q_23, .inr (4, [.int 0, .int 0, .int 0]))]) [0, 1, 2, 3, 4, 10] (by decide) rfl
  have hK9 := hK.sub (tys' := [(cA_2, .object R_D), (cB_5, .byte)]) [0, 1] rfl
  exact W.vret hx hb hr (fun t ht hW => ⟨⟨(), rfl, trivial, q_1, cA_2, q_3, q1_4, cB_5, q_7, q1_8, q_11, q_15, q_20, q_23, by rw [ht]; exact hP9, va_K.moved hW.alike hK9, hD9⟩, hS.F ht⟩) hS.2.2 d_K_init_89
end
section
set_option maxHeartbeats 4000000 in
set_option maxRecDepth 100000 in
theorem g_hasRoom (l : Launch) (dC : Nat → ClassId) (dI : Nat → Nat → Nat) (h0 : Nat) (hy : Value) (k : Nat) (n : Nat) (hk : k ≤ 256) (hn : n < 2 ^ 30) : Met l y_T_hasRoom k_T_hasRoom ({ frames := 0, cells := 0, slots := 0, locals := 0 } : Room) (va_Pc [.ref h0, .int (nI n)] (pc_R (dC, dI) [(h0, .inr (1, [hy, .int (nI k)]))] [])) (vp_Si (fun r => r = bI (decide (n + k ≤ 256)))) 0 0 (fun _ => False) := by
  refine Met.ofW (cc := prog_7_method_3_code) (maxL := 2) (ret := (some .boolean)) (by decide) rfl ?_
  intro p e s m args below meth c s₁ B hml hv
  obtain ⟨rfl, hP, hK, hN⟩ := hv
  have hx := B.exec
  have hb := B.bytes
  have hr := B.returns
  have hts := atoms_spec (ws := k_T_hasRoom) B.pre
  have hw0 : ∀ w ∈ w0, w.before _ s = true := fun w h => hts w (List.mem_cons_of_mem _ h)
  have hown : s.vm.findClass R_T = some m.cls := findClass_of_methodNamed B.named
  have hlocks := B.notSynchronized
  have hP : va_P (dC, dI) vwCl [(h0, .inr (1, [hy, .int (nI k)]))] s.heap := hP
  have hl := lv_entry ([.ref h0, .int (nI n)]) (n := 2) (Nat.le_of_ble_eq_true rfl)
  rw [lg_entry_eq]
  generalize (lg_sl ([.ref h0, .int (nI n)]) ++ List.replicate (2 - (lg_sl ([.ref h0, .int (nI n)])).length) Slot.unset).toArray = ls at hl ⊢
  have hl : lv_has ls 2 [(0, .ref h0), (1, .int (nI n))] := hl
  refine lv_iload_n hx hb d_T_hasRoom_0 rfl (lv_at hl 1 rfl) ?_
  refine lv_sipush (v := 256) hx hb d_T_hasRoom_1 (by decide +kernel) ?_
  refine lv_aload_n hx hb d_T_hasRoom_4 rfl (lv_at hl 0 rfl) ?_
  refine va_get (D := (dC, dI)) (ci := 1) (v := .int (nI k)) (C := R_T) (T := F_T) (N := 2) hx hb hw0 in_T hown hK hP 0 rfl rfl 1 (by decide) (hw0 (.fieldLink R_T 15 "TextKeeper$Text" "length" "I") (List.mem_of_getElem? (i := 62) rfl)) (fun _ h9 => h9) rfl d_T_hasRoom_5 ?_
  refine lv_isub hx hb d_T_hasRoom_8 ?_
  refine lv_topi (fun x_1 ex_1 => ?_)
  obtain rfl : x_1 = (nI (256 - k)) := by rw [ex_1]; exact (show (256 : Int32) - nI k = nI (256 - k) from pk_sub hk)
  clear ex_1
  refine lv_icmp_gt (tgt := 16) hx hb d_T_hasRoom_9 (by decide) (fun c_2 => ?_) (fun c_2 => ?_)
  · refine lv_iconst (v := 0) hx hb d_T_hasRoom_16 (by decide) ?_
    exact W.zret (v := 0) (ty := .boolean) hx hb hr rfl (fun t ht hW => ⟨0, rfl, (by have h9 := (nI_ltI (by omega) (by omega)).mp c_2; rw [bI, decide_eq_false (by omega)]; rfl), ht⟩) (fun q h => by cases h) d_T_hasRoom_17
  · refine lv_iconst (v := 1) hx hb d_T_hasRoom_12 (by decide) ?_
    refine lv_goto (tgt := 17) hx hb d_T_hasRoom_13 (by decide) ?_
    exact W.zret (v := 1) (ty := .boolean) hx hb hr rfl (fun t ht hW => ⟨1, rfl, (by have h9 := mt (nI_ltI (by omega) (by omega)).mpr c_2; rw [bI, decide_eq_true (by omega)]; rfl), ht⟩) (fun q h => by cases h) d_T_hasRoom_17
set_option maxHeartbeats 4000000 in
set_option maxRecDepth 100000 in
theorem g_byteAt (l : Launch) (dC : Nat → ClassId) (dI : Nat → Nat → Nat) (h0 : Nat) (hy : Nat) (cB : ClassId) (k : Nat) (f : Nat → Int32) (L : List Int32) (a1 : Int32) (htx : tx L k f) (hk : k ≤ 256) : Met l y_T_byteAt k_T_byteAt ({ frames := 0, cells := 0, slots := 0, locals := 0 } : Room) (va_Pc [.ref h0, .int a1] (pc_R (dC, dI) [(h0, .inr (1, [.ref hy, .int (nI k)])), (hy, .inl (cB, 256, .inl (f)))] [(cB, .byte)])) (vp_Si (fun r => r = bAt L a1)) 0 0 (fun _ => False) := by
  refine Met.ofW (cc := prog_7_method_2_code) (maxL := 2) (ret := (some .int)) (by decide) rfl ?_
  intro p e s m args below meth c s₁ B hml hv
  obtain ⟨rfl, hP, hK, hN⟩ := hv
  have hx := B.exec
  have hb := B.bytes
  have hr := B.returns
  have hts := atoms_spec (ws := k_T_byteAt) B.pre
  have hw0 : ∀ w ∈ w0, w.before _ s = true := fun w h => hts w (List.mem_cons_of_mem _ h)
  have hown : s.vm.findClass R_T = some m.cls := findClass_of_methodNamed B.named
  have hlocks := B.notSynchronized
  have hP : va_P (dC, dI) vwCl [(h0, .inr (1, [.ref hy, .int (nI k)])), (hy, .inl (cB, 256, .inl (f)))] s.heap := hP
  have hl := lv_entry ([.ref h0, .int a1]) (n := 2) (Nat.le_of_ble_eq_true rfl)
  rw [lg_entry_eq]
  generalize (lg_sl ([.ref h0, .int a1]) ++ List.replicate (2 - (lg_sl ([.ref h0, .int a1])).length) Slot.unset).toArray = ls at hl ⊢
  have hl : lv_has ls 2 [(0, .ref h0), (1, .int a1)] := hl
  refine lv_iload_n hx hb d_T_byteAt_0 rfl (lv_at hl 1 rfl) ?_
  refine lv_if_lt (tgt := 25) hx hb d_T_byteAt_1 (by decide) (fun c_1 => ?_) (fun c_1 => ?_)
  · refine lv_iconst (v := (-1)) hx hb d_T_byteAt_25 (by decide) ?_
    exact W.iret (v := (-1)) hx hb hr (fun t ht hW => ⟨(-1), rfl, (by rw [bAt, if_pos (Or.inl c_1)]), ht⟩) (fun q h => by cases h) d_T_byteAt_26
  · refine lv_iload_n hx hb d_T_byteAt_4 rfl (lv_at hl 1 rfl) ?_
    refine lv_aload_n hx hb d_T_byteAt_5 rfl (lv_at hl 0 rfl) ?_
    refine va_get (D := (dC, dI)) (ci := 1) (v := .int (nI k)) (C := R_T) (T := F_T) (N := 2) hx hb hw0 in_T hown hK hP 0 rfl rfl 1 (by decide) (hw0 (.fieldLink R_T 15 "TextKeeper$Text" "length" "I") (List.mem_of_getElem? (i := 62) rfl)) (fun _ h9 => h9) rfl d_T_byteAt_6 ?_
    refine lv_icmp_ge (tgt := 25) hx hb d_T_byteAt_9 (by decide) (fun c_2 => ?_) (fun c_2 => ?_)
    · refine lv_iconst (v := (-1)) hx hb d_T_byteAt_25 (by decide) ?_
      exact W.iret (v := (-1)) hx hb hr (fun t ht hW => ⟨(-1), rfl, (by rw [bAt, if_pos (Or.inr (by rw [htx.1]; exact c_2))]), ht⟩) (fun q h => by cases h) d_T_byteAt_26
    · refine lv_aload_n hx hb d_T_byteAt_12 rfl (lv_at hl 0 rfl) ?_
      refine va_get (D := (dC, dI)) (ci := 1) (v := .ref hy) (C := R_T) (T := F_T) (N := 2) hx hb hw0 in_T hown hK hP 0 rfl rfl 0 (by decide) (hw0 (.fieldLink R_T 9 "TextKeeper$Text" "bytes" "[B") (List.mem_of_getElem? (i := 61) rfl)) (fun _ h9 => h9) rfl d_T_byteAt_13 ?_
      refine lv_iload_n hx hb d_T_byteAt_16 rfl (lv_at hl 1 rfl) ?_
      refine va_bald hx hb hK hP 1 0 rfl rfl (x_inK hk (by decide) c_1 c_2) d_T_byteAt_17 ?_
      refine lv_topi (fun x_3 ex_3 => ?_)
      refine lv_sipush (v := 255) hx hb d_T_byteAt_18 (by decide +kernel) ?_
      refine lv_iand hx hb d_T_byteAt_21 ?_
      refine lv_topi (fun x_4 ex_4 => ?_)
      refine lv_goto (tgt := 26) hx hb d_T_byteAt_22 (by decide) ?_
      exact W.iret (v := x_4) hx hb hr (fun t ht hW => ⟨x_4, rfl, (by rw [bAt, if_neg (fun q => q.elim c_1 (fun q => c_2 (by rw [htx.1] at q; exact q))), ex_4, ex_3, tx_at htx (x_ltK c_1 c_2)]), ht⟩) (fun q h => by cases h) d_T_byteAt_26
set_option maxHeartbeats 4000000 in
set_option maxRecDepth 100000 in
theorem g_addByte (l : Launch) (dC : Nat → ClassId) (dI : Nat → Nat → Nat) (sz : Nat) (h0 : Nat) (hy : Nat) (cB : ClassId) (k : Nat) (f : Nat → Int32) (L : List Int32) (a1 : Int32) (htx : tx L k f) (hk : k < 256) : Met l y_T_addByte k_T_addByte ({ frames := 0, cells := 0, slots := 0, locals := 0 } : Room) (va_Pc [.ref h0, .int a1] (pc_E (dC, dI) [(h0, .inr (1, [.ref hy, .int (nI k)])), (hy, .inl (cB, 256, .inl (f)))] [(cB, .byte)] sz)) (va_Qv (fun (_ : Unit) => True) (fun (_ : Unit) t => ∃ (f2 : Nat → Int32), (tx (L ++ [nbb a1]) (k + 1) f2) ∧ at_E (dC, dI) (va_A [(h0, .inr (1, [.ref hy, .int (nI k)])), (hy, .inl (cB, 256, .inl (f)))] sz) [(h0, .inr (1, [.ref hy, .int (nI (k + 1))])), (hy, .inl (cB, 256, .inl (f2)))] [(cB, .byte)] t) (va_A [(h0, .inr (1, [.ref hy, .int (nI k)])), (hy, .inl (cB, 256, .inl (f)))] sz)) 0 0 (va_A [(h0, .inr (1, [.ref hy, .int (nI k)])), (hy, .inl (cB, 256, .inl (f)))] sz) := by
  refine Met.ofW (cc := prog_7_method_4_code) (maxL := 2) (ret := none) (by decide) rfl ?_
  intro p e s m args below meth c s₁ B hml hv
  obtain ⟨rfl, hsz, hP, hK, hD0, hN⟩ := hv
  have hx := B.exec
  have hb := B.bytes
  have hr := B.returns
  have hts := atoms_spec (ws := k_T_addByte) B.pre
  have hw0 : ∀ w ∈ w0, w.before _ s = true := fun w h => hts w (List.mem_cons_of_mem _ h)
  have hown : s.vm.findClass R_T = some m.cls := findClass_of_methodNamed B.named
  have hlocks := B.notSynchronized
  subst hsz
  have hD := hD0.self (sz := s.heap.size)
  generalize hAe : va_A [(h0, .inr (1, [.ref hy, .int (nI k)])), (hy, .inl (cB, 256, .inl (f)))] s.heap.size = A at hD ⊢
  have hA : ∀ q : Nat, s.heap.size ≤ q → A q := fun q h => by rw [← hAe]; exact Or.inr h
  have hS : va_S A s.heap s.heap [] := va_S.rf
  have hP : va_P (dC, dI) vwCl [(h0, .inr (1, [.ref hy, .int (nI k)])), (hy, .inl (cB, 256, .inl (f)))] s.heap := hP
  have hl := lv_entry ([.ref h0, .int a1]) (n := 2) (Nat.le_of_ble_eq_true rfl)
  rw [lg_entry_eq]
  generalize (lg_sl ([.ref h0, .int a1]) ++ List.replicate (2 - (lg_sl ([.ref h0, .int a1])).length) Slot.unset).toArray = ls at hl ⊢
  have hl : lv_has ls 2 [(0, .ref h0), (1, .int a1)] := hl
  refine lv_aload_n hx hb d_T_addByte_0 rfl (lv_at hl 0 rfl) ?_
  refine va_get (D := (dC, dI)) (ci := 1) (v := .int (nI k)) (C := R_T) (T := F_T) (N := 2) hx hb hw0 in_T hown hK hP 0 rfl rfl 1 (by decide) (hw0 (.fieldLink R_T 15 "TextKeeper$Text" "length" "I") (List.mem_of_getElem? (i := 62) rfl)) (fun _ h9 => h9) rfl d_T_addByte_1 ?_
  refine lv_sipush (v := 256) hx hb d_T_addByte_4 (by decide +kernel) ?_
  refine lv_icmp_ge (tgt := 31) hx hb d_T_addByte_7 (by decide) (fun c_1 => absurd c_1 (nI_ge hk (by decide))) (fun c_1 => ?_)
  refine lv_aload_n hx hb d_T_addByte_10 rfl (lv_at hl 0 rfl) ?_
  refine va_get (D := (dC, dI)) (ci := 1) (v := .ref hy) (C := R_T) (T := F_T) (N := 2) hx hb hw0 in_T hown hK hP 0 rfl rfl 0 (by decide) (hw0 (.fieldLink R_T 9 "TextKeeper$Text" "bytes" "[B") (List.mem_of_getElem? (i := 61) rfl)) (fun _ h9 => h9) rfl d_T_addByte_11 ?_
  refine lv_aload_n hx hb d_T_addByte_14 rfl (lv_at hl 0 rfl) ?_
  refine va_get (D := (dC, dI)) (ci := 1) (v := .int (nI k)) (C := R_T) (T := F_T) (N := 2) hx hb hw0 in_T hown hK hP 0 rfl rfl 1 (by decide) (hw0 (.fieldLink R_T 15 "TextKeeper$Text" "length" "I") (List.mem_of_getElem? (i := 62) rfl)) (fun _ h9 => h9) rfl d_T_addByte_15 ?_
  refine lv_iload_n hx hb d_T_addByte_18 rfl (lv_at hl 1 rfl) ?_
  obtain ⟨x_2, ex_2⟩ : ∃ y : Int32, a1.toInt8.toInt32 = y := ⟨_, rfl⟩
  refine lv_i2b (v := x_2) hx hb d_T_addByte_19 ex_2 ?_
  refine va_bast hx hb hK hP hD hS 1 0 rfl rfl (vp_in_nI hk (by decide)) d_T_addByte_20 (fun H locs hP hD hS => ?_)
  replace hP : va_P (dC, dI) vwCl [(h0, .inr (1, [.ref hy, .int (nI k)])), (hy, .inl (cB, 256, .inl (upd (f) (Int32.toNatClampNeg (nI k)) (vp_nar .byte (x_2)))))] H := hP
  replace hD : va_D A [(h0, .inr (1, [.ref hy, .int (nI k)])), (hy, .inl (cB, 256, .inl (upd (f) (Int32.toNatClampNeg (nI k)) (vp_nar .byte (x_2)))))] := hD
  have eS : upd (f) (Int32.toNatClampNeg (nI k)) (vp_nar .byte (x_2)) = upd f k (nbb a1) := by rw [nI_clamp (by omega), ← ex_2]; exact congrArg (upd f k) (pk_vb a1)
  rw [eS] at hP hD
  refine lv_aload_n hx hb d_T_addByte_21 rfl (lv_at hl 0 rfl) ?_
  refine lv_dup hx hb d_T_addByte_22 rfl ?_
  refine va_get (D := (dC, dI)) (ci := 1) (v := .int (nI k)) (C := R_T) (T := F_T) (N := 2) hx hb hw0 in_T hown hK hP 0 rfl rfl 1 (by decide) (hw0 (.fieldLink R_T 15 "TextKeeper$Text" "length" "I") (List.mem_of_getElem? (i := 62) rfl)) (fun _ h9 => h9) rfl d_T_addByte_23 ?_
  refine lv_iconst (v := 1) hx hb d_T_addByte_26 (by decide) ?_
  refine lv_iadd hx hb d_T_addByte_27 ?_
  refine lv_topi (fun x_3 ex_3 => ?_)
  obtain rfl : x_3 = (nI (k + 1)) := by rw [ex_3]; exact nI_1 k
  clear ex_3
  refine va_put (D := (dC, dI)) (ci := 1) (v := .int (nI (k + 1))) (ty := .int) (C := R_T) (T := F_T) (N := 2) hx hb hw0 in_T ft_T tk_T nk_T hown hK hP hD hS 0 rfl rfl 1 (by decide) (hw0 (.fieldLink R_T 15 "TextKeeper$Text" "length" "I") (List.mem_of_getElem? (i := 62) rfl)) (fun _ h9 => h9) rfl (by decide +kernel) rfl rfl (Nat.le_of_ble_eq_true rfl) d_T_addByte_28 (fun H locs hP hD hS => ?_)
  replace hP : va_P (dC, dI) vwCl [(h0, .inr (1, [.ref hy, .int (nI (k + 1))])), (hy, .inl (cB, 256, .inl ((upd f k (nbb a1)))))] H := hP
  replace hD : va_D A [(h0, .inr (1, [.ref hy, .int (nI (k + 1))])), (hy, .inl (cB, 256, .inl ((upd f k (nbb a1)))))] := hD
  have hP9 := hP.sub (ws' := [(h0, .inr (1, [.ref hy, .int (nI (k + 1))])), (hy, .inl (cB, 256, .inl ((upd f k (nbb a1)))))]) [0, 1] rfl
  have hD9 := hD.sub (ws' := [(h0, .inr (1, [.ref hy, .int (nI (k + 1))])), (hy, .inl (cB, 256, .inl ((upd f k (nbb a1)))))]) [0, 1] (by decide) rfl
  have hK9 := hK.sub (tys' := [(cB, .byte)]) [0] rfl
  exact W.vret hx hb hr (fun t ht hW => ⟨⟨(), rfl, trivial, (upd f k (nbb a1)), tx_push htx (nbb_B a1), by rw [ht]; exact hP9, va_K.moved hW.alike hK9, hD9⟩, hS.F ht⟩) hS.2.2 d_T_addByte_31
set_option maxHeartbeats 4000000 in
set_option maxRecDepth 100000 in
theorem g_addInt (l : Launch) (dC : Nat → ClassId) (dI : Nat → Nat → Nat) (sz : Nat) (h0 : Nat) (hy : Nat) (cB : ClassId) (k : Nat) (f : Nat → Int32) (L : List Int32) (a1 : Int32) (htx : tx L k f) (hk : k + 4 ≤ 256) : Met l y_T_addInt k_T_addInt ({ frames := 1, cells := 0, slots := 0, locals := 21 } : Room) (va_Pc [.ref h0, .int a1] (pc_E (dC, dI) [(h0, .inr (1, [.ref hy, .int (nI k)])), (hy, .inl (cB, 256, .inl (f)))] [(cB, .byte)] sz)) (va_Qv (fun (_ : Unit) => True) (fun (_ : Unit) t => ∃ (f2 : Nat → Int32), (tx (L ++ fb4 a1) (k + 4) f2) ∧ at_E (dC, dI) (va_A [(h0, .inr (1, [.ref hy, .int (nI k)])), (hy, .inl (cB, 256, .inl (f)))] sz) [(h0, .inr (1, [.ref hy, .int (nI (k + 4))])), (hy, .inl (cB, 256, .inl (f2)))] [(cB, .byte)] t) (va_A [(h0, .inr (1, [.ref hy, .int (nI k)])), (hy, .inl (cB, 256, .inl (f)))] sz)) 0 0 (va_A [(h0, .inr (1, [.ref hy, .int (nI k)])), (hy, .inl (cB, 256, .inl (f)))] sz) := by
  refine Met.ofW (cc := prog_7_method_5_code) (maxL := 3) (ret := none) (by decide) rfl ?_
  intro p e s m args below meth c s₁ B hml hv
  obtain ⟨rfl, hsz, hP, hK, hD0, hN⟩ := hv
  have hx := B.exec
  have hb := B.bytes
  have hr := B.returns
  have hts := atoms_spec (ws := k_T_addInt) B.pre
  have hw0 : ∀ w ∈ w0, w.before _ s = true := fun w h => hts w (List.mem_cons_of_mem _ h)
  have hown : s.vm.findClass R_T = some m.cls := findClass_of_methodNamed B.named
  have hlocks := B.notSynchronized
  subst hsz
  have hD := hD0.self (sz := s.heap.size)
  generalize hAe : va_A [(h0, .inr (1, [.ref hy, .int (nI k)])), (hy, .inl (cB, 256, .inl (f)))] s.heap.size = A at hD ⊢
  have hA : ∀ q : Nat, s.heap.size ≤ q → A q := fun q h => by rw [← hAe]; exact Or.inr h
  have hS : va_S A s.heap s.heap [] := va_S.rf
  have hP : va_P (dC, dI) vwCl [(h0, .inr (1, [.ref hy, .int (nI k)])), (hy, .inl (cB, 256, .inl (f)))] s.heap := hP
  have hl := lv_entry ([.ref h0, .int a1]) (n := 3) (Nat.le_of_ble_eq_true rfl)
  rw [lg_entry_eq]
  generalize (lg_sl ([.ref h0, .int a1]) ++ List.replicate (3 - (lg_sl ([.ref h0, .int a1])).length) Slot.unset).toArray = ls at hl ⊢
  have hl : lv_has ls 3 [(0, .ref h0), (1, .int a1)] := hl
  refine lv_bipush (v := 24) hx hb d_T_addInt_0 (by decide +kernel) ?_
  refine lv_istore_n (lv' := [(2, .int 24), (0, .ref h0), (1, .int a1)]) hx hb d_T_addInt_2 rfl hl (by decide) rfl (fun ls hl => ?_)
  refine lv_iload_n hx hb d_T_addInt_3 rfl (lv_at hl 0 rfl) ?_
  refine lv_if_lt (tgt := 20) hx hb d_T_addInt_4 (by decide) (fun h9 => absurd h9 (by decide +kernel)) (fun _ => ?_)
  refine lv_aload_n hx hb d_T_addInt_7 rfl (lv_at hl 1 rfl) ?_
  refine lv_iload_n hx hb d_T_addInt_8 rfl (lv_at hl 2 rfl) ?_
  refine lv_iload_n hx hb d_T_addInt_9 rfl (lv_at hl 0 rfl) ?_
  refine lv_ishr hx hb d_T_addInt_10 ?_
  have hPc := hP.sub (ws' := [(h0, .inr (1, [.ref hy, .int (nI k)])), (hy, .inl (cB, 256, .inl ((f))))]) [0, 1] rfl
  have hKc := hK.sub (tys' := [(cB, .byte)]) [0] rfl
  have hDc := hD.sub (ws' := [(h0, .inr (1, [.ref hy, .int (nI k)])), (hy, .inl (cB, 256, .inl ((f))))]) [0, 1] (by decide) rfl
  have hFc := va_free (wc := [(h0, .inr (1, [.ref hy, .int (nI k)])), (hy, .inl (cB, 256, .inl ((f))))]) hD hS hA [0, 1] rfl
  refine va_callv (va_runV (As := [.int (a1 >>> (24 &&& 31))]) (rest := []) ⟨hx, hb, hml, hown, hw0⟩ (g_addByte l dC dI s.heap.size h0 hy cB k (f) _ (a1 >>> (24 &&& 31)) (by first | assumption | decide | omega) (by first | assumption | decide | omega)) (cwV 1 hw0 (gd_V 108 109 110 69 111 rfl rfl rfl rfl rfl) rfl rfl rfl (by decide +kernel) ⟨by decide +kernel, by decide +kernel⟩) (prV_E hPc hKc hDc hN (va_recv hKc hPc (ci := 1) (q0 := 0) rfl rfl)) rfl rfl hl.1 rfl (lv_room (Nat.le_of_ble_eq_true rfl)) d_T_addInt_11 ⟨by decide +kernel, by decide +kernel⟩) hS (fun q _ h => hFc q h) hFc (fun u t H1 locs ht hvm hw hB hz1 hk1 hS => ?_)
  obtain ⟨f2_1, hu_2, hP1, hK1, hD1⟩ := hB
  rw [ht] at hP1
  have hK1 := va_K.moved hvm.symm hK1
  try dsimp only at hw
  obtain ⟨hP, hD⟩ := va_join (wr := []) (w1 := [(h0, .inr (1, [.ref hy, .int (nI (k + 1))])), (hy, .inl (cB, 256, .inl (f2_1)))]) hP hD [0, 1] [] rfl rfl (by decide) (by decide) hk1 hFc hP1 hD1
  generalize H1 = H at hP hS ⊢
  replace hP : va_P (dC, dI) vwCl [(h0, .inr (1, [.ref hy, .int (nI (k + 1))])), (hy, .inl (cB, 256, .inl (f2_1)))] H := hP
  replace hD : va_D A [(h0, .inr (1, [.ref hy, .int (nI (k + 1))])), (hy, .inl (cB, 256, .inl (f2_1)))] := hD
  replace hK : va_K (dC, dI) vwCl [(cB, .byte)] s := hK
  refine lv_iinc (v := 16) (lv' := [(2, .int 16), (0, .ref h0), (1, .int a1)]) hx hb d_T_addInt_14 hl (k := 0) rfl (by decide +kernel) (by decide) rfl (fun ls hl => ?_)
  refine lv_goto (tgt := 3) hx hb d_T_addInt_17 (by decide) ?_
  refine lv_iload_n hx hb d_T_addInt_3 rfl (lv_at hl 0 rfl) ?_
  refine lv_if_lt (tgt := 20) hx hb d_T_addInt_4 (by decide) (fun h9 => absurd h9 (by decide +kernel)) (fun _ => ?_)
  refine lv_aload_n hx hb d_T_addInt_7 rfl (lv_at hl 1 rfl) ?_
  refine lv_iload_n hx hb d_T_addInt_8 rfl (lv_at hl 2 rfl) ?_
  refine lv_iload_n hx hb d_T_addInt_9 rfl (lv_at hl 0 rfl) ?_
  refine lv_ishr hx hb d_T_addInt_10 ?_
  have hPc := hP.sub (ws' := [(h0, .inr (1, [.ref hy, .int (nI (k + 1))])), (hy, .inl (cB, 256, .inl ((f2_1))))]) [0, 1] rfl
  have hKc := hK.sub (tys' := [(cB, .byte)]) [0] rfl
  have hDc := hD.sub (ws' := [(h0, .inr (1, [.ref hy, .int (nI (k + 1))])), (hy, .inl (cB, 256, .inl ((f2_1))))]) [0, 1] (by decide) rfl
  have hFc := va_free (wc := [(h0, .inr (1, [.ref hy, .int (nI (k + 1))])), (hy, .inl (cB, 256, .inl ((f2_1))))]) hD hS hA [0, 1] rfl
  refine va_callv (va_runV (As := [.int (a1 >>> (16 &&& 31))]) (rest := []) ⟨hx, hb, hml, hown, hw0⟩ (g_addByte l dC dI H.size h0 hy cB (k + 1) (f2_1) _ (a1 >>> (16 &&& 31)) (by first | assumption | decide | omega) (by first | assumption | decide | omega)) (cwV 1 hw0 (gd_V 108 109 110 69 111 rfl rfl rfl rfl rfl) rfl rfl rfl (by decide +kernel) ⟨by decide +kernel, by decide +kernel⟩) (prV_E hPc hKc hDc hN (va_recv hKc hPc (ci := 1) (q0 := 0) rfl rfl)) rfl rfl hl.1 rfl (lv_room (Nat.le_of_ble_eq_true rfl)) d_T_addInt_11 ⟨by decide +kernel, by decide +kernel⟩) hS (fun q _ h => hFc q h) hFc (fun u t H1 locs ht hvm hw hB hz1 hk1 hS => ?_)
  obtain ⟨f2_3, hu_4, hP1, hK1, hD1⟩ := hB
  rw [ht] at hP1
  have hK1 := va_K.moved hvm.symm hK1
  try dsimp only at hw
  obtain ⟨hP, hD⟩ := va_join (wr := []) (w1 := [(h0, .inr (1, [.ref hy, .int (nI ((k + 1) + 1))])), (hy, .inl (cB, 256, .inl (f2_3)))]) hP hD [0, 1] [] rfl rfl (by decide) (by decide) hk1 hFc hP1 hD1
  generalize H1 = H at hP hS ⊢
  replace hP : va_P (dC, dI) vwCl [(h0, .inr (1, [.ref hy, .int (nI ((k + 1) + 1))])), (hy, .inl (cB, 256, .inl (f2_3)))] H := hP
  replace hD : va_D A [(h0, .inr (1, [.ref hy, .int (nI ((k + 1) + 1))])), (hy, .inl (cB, 256, .inl (f2_3)))] := hD
  replace hK : va_K (dC, dI) vwCl [(cB, .byte)] s := hK
  refine lv_iinc (v := 8) (lv' := [(2, .int 8), (0, .ref h0), (1, .int a1)]) hx hb d_T_addInt_14 hl (k := 0) rfl (by decide +kernel) (by decide) rfl (fun ls hl => ?_)
  refine lv_goto (tgt := 3) hx hb d_T_addInt_17 (by decide) ?_
  refine lv_iload_n hx hb d_T_addInt_3 rfl (lv_at hl 0 rfl) ?_
  refine lv_if_lt (tgt := 20) hx hb d_T_addInt_4 (by decide) (fun h9 => absurd h9 (by decide +kernel)) (fun _ => ?_)
  refine lv_aload_n hx hb d_T_addInt_7 rfl (lv_at hl 1 rfl) ?_
  refine lv_iload_n hx hb d_T_addInt_8 rfl (lv_at hl 2 rfl) ?_
  refine lv_iload_n hx hb d_T_addInt_9 rfl (lv_at hl 0 rfl) ?_
  refine lv_ishr hx hb d_T_addInt_10 ?_
  have hPc := hP.sub (ws' := [(h0, .inr (1, [.ref hy, .int (nI ((k + 1) + 1))])), (hy, .inl (cB, 256, .inl ((f2_3))))]) [0, 1] rfl
  have hKc := hK.sub (tys' := [(cB, .byte)]) [0] rfl
  have hDc := hD.sub (ws' := [(h0, .inr (1, [.ref hy, .int (nI ((k + 1) + 1))])), (hy, .inl (cB, 256, .inl ((f2_3))))]) [0, 1] (by decide) rfl
  have hFc := va_free (wc := [(h0, .inr (1, [.ref hy, .int (nI ((k + 1) + 1))])), (hy, .inl (cB, 256, .inl ((f2_3))))]) hD hS hA [0, 1] rfl
  refine va_callv (va_runV (As := [.int (a1 >>> (8 &&& 31))]) (rest := []) ⟨hx, hb, hml, hown, hw0⟩ (g_addByte l dC dI H.size h0 hy cB ((k + 1) + 1) (f2_3) _ (a1 >>> (8 &&& 31)) (by first | assumption | decide | omega) (by first | assumption | decide | omega)) (cwV 1 hw0 (gd_V 108 109 110 69 111 rfl rfl rfl rfl rfl) rfl rfl rfl (by decide +kernel) ⟨by decide +kernel, by decide +kernel⟩) (prV_E hPc hKc hDc hN (va_recv hKc hPc (ci := 1) (q0 := 0) rfl rfl)) rfl rfl hl.1 rfl (lv_room (Nat.le_of_ble_eq_true rfl)) d_T_addInt_11 ⟨by decide +kernel, by decide +kernel⟩) hS (fun q _ h => hFc q h) hFc (fun u t H1 locs ht hvm hw hB hz1 hk1 hS => ?_)
  obtain ⟨f2_5, hu_6, hP1, hK1, hD1⟩ := hB
  rw [ht] at hP1
  have hK1 := va_K.moved hvm.symm hK1
  try dsimp only at hw
  obtain ⟨hP, hD⟩ := va_join (wr := []) (w1 := [(h0, .inr (1, [.ref hy, .int (nI (((k + 1) + 1) + 1))])), (hy, .inl (cB, 256, .inl (f2_5)))]) hP hD [0, 1] [] rfl rfl (by decide) (by decide) hk1 hFc hP1 hD1
  generalize H1 = H at hP hS ⊢
  replace hP : va_P (dC, dI) vwCl [(h0, .inr (1, [.ref hy, .int (nI (((k + 1) + 1) + 1))])), (hy, .inl (cB, 256, .inl (f2_5)))] H := hP
  replace hD : va_D A [(h0, .inr (1, [.ref hy, .int (nI (((k + 1) + 1) + 1))])), (hy, .inl (cB, 256, .inl (f2_5)))] := hD
  replace hK : va_K (dC, dI) vwCl [(cB, .byte)] s := hK
  refine lv_iinc (v := 0) (lv' := [(2, .int 0), (0, .ref h0), (1, .int a1)]) hx hb d_T_addInt_14 hl (k := 0) rfl (by decide +kernel) (by decide) rfl (fun ls hl => ?_)
  refine lv_goto (tgt := 3) hx hb d_T_addInt_17 (by decide) ?_
  refine lv_iload_n hx hb d_T_addInt_3 rfl (lv_at hl 0 rfl) ?_
  refine lv_if_lt (tgt := 20) hx hb d_T_addInt_4 (by decide) (fun h9 => absurd h9 (by decide +kernel)) (fun _ => ?_)
  refine lv_aload_n hx hb d_T_addInt_7 rfl (lv_at hl 1 rfl) ?_
  refine lv_iload_n hx hb d_T_addInt_8 rfl (lv_at hl 2 rfl) ?_
  refine lv_iload_n hx hb d_T_addInt_9 rfl (lv_at hl 0 rfl) ?_
  refine lv_ishr hx hb d_T_addInt_10 ?_
  have hPc := hP.sub (ws' := [(h0, .inr (1, [.ref hy, .int (nI (((k + 1) + 1) + 1))])), (hy, .inl (cB, 256, .inl ((f2_5))))]) [0, 1] rfl
  have hKc := hK.sub (tys' := [(cB, .byte)]) [0] rfl
  have hDc := hD.sub (ws' := [(h0, .inr (1, [.ref hy, .int (nI (((k + 1) + 1) + 1))])), (hy, .inl (cB, 256, .inl ((f2_5))))]) [0, 1] (by decide) rfl
  have hFc := va_free (wc := [(h0, .inr (1, [.ref hy, .int (nI (((k + 1) + 1) + 1))])), (hy, .inl (cB, 256, .inl ((f2_5))))]) hD hS hA [0, 1] rfl
  refine va_callv (va_runV (As := [.int (a1 >>> (0 &&& 31))]) (rest := []) ⟨hx, hb, hml, hown, hw0⟩ (g_addByte l dC dI H.size h0 hy cB (((k + 1) + 1) + 1) (f2_5) _ (a1 >>> (0 &&& 31)) (by first | assumption | decide | omega) (by first | assumption | decide | omega)) (cwV 1 hw0 (gd_V 108 109 110 69 111 rfl rfl rfl rfl rfl) rfl rfl rfl (by decide +kernel) ⟨by decide +kernel, by decide +kernel⟩) (prV_E hPc hKc hDc hN (va_recv hKc hPc (ci := 1) (q0 := 0) rfl rfl)) rfl rfl hl.1 rfl (lv_room (Nat.le_of_ble_eq_true rfl)) d_T_addInt_11 ⟨by decide +kernel, by decide +kernel⟩) hS (fun q _ h => hFc q h) hFc (fun u t H1 locs ht hvm hw hB hz1 hk1 hS => ?_)
  obtain ⟨f2_7, hu_8, hP1, hK1, hD1⟩ := hB
  rw [ht] at hP1
  have hK1 := va_K.moved hvm.symm hK1
  try dsimp only at hw
  obtain ⟨hP, hD⟩ := va_join (wr := []) (w1 := [(h0, .inr (1, [.ref hy, .int (nI ((((k + 1) + 1) + 1) + 1))])), (hy, .inl (cB, 256, .inl (f2_7)))]) hP hD [0, 1] [] rfl rfl (by decide) (by decide) hk1 hFc hP1 hD1
  generalize H1 = H at hP hS ⊢
  replace hP : va_P (dC, dI) vwCl [(h0, .inr (1, [.ref hy, .int (nI ((((k + 1) + 1) + 1) + 1))])), (hy, .inl (cB, 256, .inl (f2_7)))] H := hP
  replace hD : va_D A [(h0, .inr (1, [.ref hy, .int (nI ((((k + 1) + 1) + 1) + 1))])), (hy, .inl (cB, 256, .inl (f2_7)))] := hD
  replace hK : va_K (dC, dI) vwCl [(cB, .byte)] s := hK
  refine lv_iinc (v := (-8)) (lv' := [(2, .int (-8)), (0, .ref h0), (1, .int a1)]) hx hb d_T_addInt_14 hl (k := 0) rfl (by decide +kernel) (by decide) rfl (fun ls hl => ?_)
  refine lv_goto (tgt := 3) hx hb d_T_addInt_17 (by decide) ?_
  refine lv_iload_n hx hb d_T_addInt_3 rfl (lv_at hl 0 rfl) ?_
  refine lv_if_lt (tgt := 20) hx hb d_T_addInt_4 (by decide) (fun _ => ?_) (fun h9 => absurd h9 (by decide +kernel))
  have hP9 := hP.sub (ws' := [(h0, .inr (1, [.ref hy, .int (nI (k + 4))])), (hy, .inl (cB, 256, .inl (f2_7)))]) [0, 1] rfl
  have hD9 := hD.sub (ws' := [(h0, .inr (1, [.ref hy, .int (nI (k + 4))])), (hy, .inl (cB, 256, .inl (f2_7)))]) [0, 1] (by decide) rfl
  have hK9 := hK.sub (tys' := [(cB, .byte)]) [0] rfl
  exact W.vret hx hb hr (fun t ht hW => ⟨⟨(), rfl, trivial, f2_7, (by have h9 := hu_8; simp only [List.append_assoc, List.cons_append, List.nil_append] at h9; exact h9), by rw [ht]; exact hP9, va_K.moved hW.alike hK9, hD9⟩, hS.F ht⟩) hS.2.2 d_T_addInt_20
set_option maxHeartbeats 4000000 in
set_option maxRecDepth 100000 in
theorem g_shorten_T (l : Launch) (dC : Nat → ClassId) (dI : Nat → Nat → Nat) (sz : Nat) (h0 : Nat) (hy : Nat) (cB : ClassId) (k : Nat) (f : Nat → Int32) (L : List Int32) (n : Nat) (htx : tx L k f) (hk : k ≤ 256) (hn : n ≤ k) : Met l y_T_shorten k_T_shorten ({ frames := 0, cells := 0, slots := 0, locals := 0 } : Room) (va_Pc [.ref h0, .int (nI n)] (pc_E (dC, dI) [(h0, .inr (1, [.ref hy, .int (nI k)])), (hy, .inl (cB, 256, .inl (f)))] [(cB, .byte)] sz)) (va_Qi (fun (r : Int32) (_ : Unit) => r = 1) (fun (_ : Unit) t => (tx (L.take n) n f) ∧ at_E (dC, dI) (va_A [(h0, .inr (1, [.ref hy, .int (nI k)])), (hy, .inl (cB, 256, .inl (f)))] sz) [(h0, .inr (1, [.ref hy, .int (nI n)])), (hy, .inl (cB, 256, .inl (f)))] [(cB, .byte)] t) (va_A [(h0, .inr (1, [.ref hy, .int (nI k)])), (hy, .inl (cB, 256, .inl (f)))] sz)) 0 0 (va_A [(h0, .inr (1, [.ref hy, .int (nI k)])), (hy, .inl (cB, 256, .inl (f)))] sz) := by
  refine Met.ofW (cc := prog_7_method_6_code) (maxL := 2) (ret := (some .boolean)) (by decide) rfl ?_
  intro p e s m args below meth c s₁ B hml hv
  obtain ⟨rfl, hsz, hP, hK, hD0, hN⟩ := hv
  have hx := B.exec
  have hb := B.bytes
  have hr := B.returns
  have hts := atoms_spec (ws := k_T_shorten) B.pre
  have hw0 : ∀ w ∈ w0, w.before _ s = true := fun w h => hts w (List.mem_cons_of_mem _ h)
  have hown : s.vm.findClass R_T = some m.cls := findClass_of_methodNamed B.named
  have hlocks := B.notSynchronized
  subst hsz
  have hD := hD0.self (sz := s.heap.size)
  generalize hAe : va_A [(h0, .inr (1, [.ref hy, .int (nI k)])), (hy, .inl (cB, 256, .inl (f)))] s.heap.size = A at hD ⊢
  have hA : ∀ q : Nat, s.heap.size ≤ q → A q := fun q h => by rw [← hAe]; exact Or.inr h
  have hS : va_S A s.heap s.heap [] := va_S.rf
  have hP : va_P (dC, dI) vwCl [(h0, .inr (1, [.ref hy, .int (nI k)])), (hy, .inl (cB, 256, .inl (f)))] s.heap := hP
  have hl := lv_entry ([.ref h0, .int (nI n)]) (n := 2) (Nat.le_of_ble_eq_true rfl)
  rw [lg_entry_eq]
  generalize (lg_sl ([.ref h0, .int (nI n)]) ++ List.replicate (2 - (lg_sl ([.ref h0, .int (nI n)])).length) Slot.unset).toArray = ls at hl ⊢
  have hl : lv_has ls 2 [(0, .ref h0), (1, .int (nI n))] := hl
  refine lv_iload_n hx hb d_T_shorten_0 rfl (lv_at hl 1 rfl) ?_
  refine lv_if_lt (tgt := 12) hx hb d_T_shorten_1 (by decide) (fun c_1 => absurd c_1 (nI_pos (by omega))) (fun c_1 => ?_)
  refine lv_iload_n hx hb d_T_shorten_4 rfl (lv_at hl 1 rfl) ?_
  refine lv_aload_n hx hb d_T_shorten_5 rfl (lv_at hl 0 rfl) ?_
  refine va_get (D := (dC, dI)) (ci := 1) (v := .int (nI k)) (C := R_T) (T := F_T) (N := 2) hx hb hw0 in_T hown hK hP 0 rfl rfl 1 (by decide) (hw0 (.fieldLink R_T 15 "TextKeeper$Text" "length" "I") (List.mem_of_getElem? (i := 62) rfl)) (fun _ h9 => h9) rfl d_T_shorten_6 ?_
  refine lv_icmp_le (tgt := 14) hx hb d_T_shorten_9 (by decide) (fun c_2 => ?_) (fun c_2 => absurd (nI_le hn (by omega)) c_2)
  refine lv_aload_n hx hb d_T_shorten_14 rfl (lv_at hl 0 rfl) ?_
  refine lv_iload_n hx hb d_T_shorten_15 rfl (lv_at hl 1 rfl) ?_
  refine va_put (D := (dC, dI)) (ci := 1) (v := .int (nI n)) (ty := .int) (C := R_T) (T := F_T) (N := 2) hx hb hw0 in_T ft_T tk_T nk_T hown hK hP hD hS 0 rfl rfl 1 (by decide) (hw0 (.fieldLink R_T 15 "TextKeeper$Text" "length" "I") (List.mem_of_getElem? (i := 62) rfl)) (fun _ h9 => h9) rfl (by decide +kernel) rfl rfl (Nat.le_of_ble_eq_true rfl) d_T_shorten_16 (fun H locs hP hD hS => ?_)
  replace hP : va_P (dC, dI) vwCl [(h0, .inr (1, [.ref hy, .int (nI n)])), (hy, .inl (cB, 256, .inl (f)))] H := hP
  replace hD : va_D A [(h0, .inr (1, [.ref hy, .int (nI n)])), (hy, .inl (cB, 256, .inl (f)))] := hD
  refine lv_iconst (v := 1) hx hb d_T_shorten_19 (by decide) ?_
  have hP9 := hP.sub (ws' := [(h0, .inr (1, [.ref hy, .int (nI n)])), (hy, .inl (cB, 256, .inl (f)))]) [0, 1] rfl
  have hD9 := hD.sub (ws' := [(h0, .inr (1, [.ref hy, .int (nI n)])), (hy, .inl (cB, 256, .inl (f)))]) [0, 1] (by decide) rfl
  have hK9 := hK.sub (tys' := [(cB, .byte)]) [0] rfl
  exact W.zret (v := 1) (ty := .boolean) hx hb hr rfl (fun t ht hW => ⟨⟨1, (), rfl, rfl, tx_take htx hn, by rw [ht]; exact hP9, va_K.moved hW.alike hK9, hD9⟩, hS.F ht⟩) hS.2.2 d_T_shorten_20
set_option maxHeartbeats 4000000 in
set_option maxRecDepth 100000 in
theorem g_shorten_F (l : Launch) (dC : Nat → ClassId) (dI : Nat → Nat → Nat) (h0 : Nat) (hy : Nat) (cB : ClassId) (k : Nat) (f : Nat → Int32) (a1 : Int32) (hn : a1 < 0 ∨ nI k < a1) : Met l y_T_shorten k_T_shorten ({ frames := 0, cells := 0, slots := 0, locals := 0 } : Room) (va_Pc [.ref h0, .int a1] (pc_R (dC, dI) [(h0, .inr (1, [.ref hy, .int (nI k)])), (hy, .inl (cB, 256, .inl (f)))] [(cB, .byte)])) (vp_Si (fun r => r = 0)) 0 0 (fun _ => False) := by
  refine Met.ofW (cc := prog_7_method_6_code) (maxL := 2) (ret := (some .boolean)) (by decide) rfl ?_
  intro p e s m args below meth c s₁ B hml hv
  obtain ⟨rfl, hP, hK, hN⟩ := hv
  have hx := B.exec
  have hb := B.bytes
  have hr := B.returns
  have hts := atoms_spec (ws := k_T_shorten) B.pre
  have hw0 : ∀ w ∈ w0, w.before _ s = true := fun w h => hts w (List.mem_cons_of_mem _ h)
  have hown : s.vm.findClass R_T = some m.cls := findClass_of_methodNamed B.named
  have hlocks := B.notSynchronized
  have hP : va_P (dC, dI) vwCl [(h0, .inr (1, [.ref hy, .int (nI k)])), (hy, .inl (cB, 256, .inl (f)))] s.heap := hP
  have hl := lv_entry ([.ref h0, .int a1]) (n := 2) (Nat.le_of_ble_eq_true rfl)
  rw [lg_entry_eq]
  generalize (lg_sl ([.ref h0, .int a1]) ++ List.replicate (2 - (lg_sl ([.ref h0, .int a1])).length) Slot.unset).toArray = ls at hl ⊢
  have hl : lv_has ls 2 [(0, .ref h0), (1, .int a1)] := hl
  refine lv_iload_n hx hb d_T_shorten_0 rfl (lv_at hl 1 rfl) ?_
  refine lv_if_lt (tgt := 12) hx hb d_T_shorten_1 (by decide) (fun c_1 => ?_) (fun c_1 => ?_)
  · refine lv_iconst (v := 0) hx hb d_T_shorten_12 (by decide) ?_
    exact W.zret (v := 0) (ty := .boolean) hx hb hr rfl (fun t ht hW => ⟨0, rfl, rfl, ht⟩) (fun q h => by cases h) d_T_shorten_13
  · refine lv_iload_n hx hb d_T_shorten_4 rfl (lv_at hl 1 rfl) ?_
    refine lv_aload_n hx hb d_T_shorten_5 rfl (lv_at hl 0 rfl) ?_
    refine va_get (D := (dC, dI)) (ci := 1) (v := .int (nI k)) (C := R_T) (T := F_T) (N := 2) hx hb hw0 in_T hown hK hP 0 rfl rfl 1 (by decide) (hw0 (.fieldLink R_T 15 "TextKeeper$Text" "length" "I") (List.mem_of_getElem? (i := 62) rfl)) (fun _ h9 => h9) rfl d_T_shorten_6 ?_
    refine lv_icmp_le (tgt := 14) hx hb d_T_shorten_9 (by decide) (fun c_2 => absurd c_2 (fun h9 => hn.elim (fun h => c_1 h) (fun h => Int32.not_le.mpr h h9))) (fun c_2 => ?_)
    refine lv_iconst (v := 0) hx hb d_T_shorten_12 (by decide) ?_
    exact W.zret (v := 0) (ty := .boolean) hx hb hr rfl (fun t ht hW => ⟨0, rfl, rfl, ht⟩) (fun q h => by cases h) d_T_shorten_13
set_option maxHeartbeats 4000000 in
set_option maxRecDepth 100000 in
theorem lq_sum {p : Program} {l : Launch} {e : Env} {s : State} {m : MethodId} {args : Array Value} {below : List Frame} {meth : Method} {c : Code} {dC : Nat → ClassId} {dI : Nat → Nat → Nat} {A : Nat → Prop} {Q : State → Prop} (h0 : Nat) (hy : Nat) (cB : ClassId) (k : Nat) (f : Nat → Int32) (L : List Int32) (htx : tx L k f) (hk : k ≤ 256)
    (hx : p.tables.exec = Jvm.exec) (hb : c.code = prog_7_method_8_code) (hml : c.maxLocals = 3) (hown : s.vm.findClass R_T = some m.cls) (hw0 : ∀ w ∈ w0, w.before args s = true) (hN : nw_ok s) (hK : va_K (dC, dI) vwCl [(cB, .byte)] s) (hA : ∀ q : Nat, s.heap.size ≤ q → A q)
    (kk : ∀ (H : Heap) (locs : List Loc), va_P (dC, dI) vwCl [(h0, .inr (1, [.ref hy, .int (nI k)])), (hy, .inl (cB, 256, .inl (f)))] H → va_D A [(h0, .inr (1, [.ref hy, .int (nI k)])), (hy, .inl (cB, 256, .inl (f)))] → va_S A s.heap H locs → ∀ ls : Array Slot, lv_has ls 3 [(2, .int (nI k)), (1, .int (sumL (L.take k))), (0, .ref h0)] → W p l e ({ frames := 0, cells := 0, slots := 0, locals := 0 } : Room) s m args below meth c H locs 0 0 Q (F0 m 36 ls [])) :
    ∀ (n j : Nat), j ≤ k → k < j + n → ∀ (H : Heap) (locs : List Loc), va_P (dC, dI) vwCl [(h0, .inr (1, [.ref hy, .int (nI k)])), (hy, .inl (cB, 256, .inl (f)))] H → va_D A [(h0, .inr (1, [.ref hy, .int (nI k)])), (hy, .inl (cB, 256, .inl (f)))] → va_S A s.heap H locs → ∀ ls : Array Slot, lv_has ls 3 [(2, .int (nI j)), (1, .int (sumL (L.take j))), (0, .ref h0)] → W p l e ({ frames := 0, cells := 0, slots := 0, locals := 0 } : Room) s m args below meth c H locs 0 0 Q (F0 m 4 ls []) := by
  intro n
  induction n with
  | zero => intro j h1 h2; exact absurd h2 (by omega)
  | succ n ih =>
    intro j hj hn   H locs hP hD hS ls hl
    refine lv_iload_n hx hb d_T_sum_4 rfl (lv_at hl 0 rfl) ?_
    refine lv_aload_n hx hb d_T_sum_5 rfl (lv_at hl 2 rfl) ?_
    refine va_get (D := (dC, dI)) (ci := 1) (v := .int (nI k)) (C := R_T) (T := F_T) (N := 2) hx hb hw0 in_T hown hK hP 0 rfl rfl 1 (by decide) (hw0 (.fieldLink R_T 15 "TextKeeper$Text" "length" "I") (List.mem_of_getElem? (i := 62) rfl)) (fun _ h9 => h9) rfl d_T_sum_6 ?_
    refine lv_icmp_ge (tgt := 36) hx hb d_T_sum_9 (by decide) (fun c_1 => ?_) (fun c_1 => ?_)
    · obtain rfl : j = k := x_geN (by omega) hj c_1
      exact kk _ _ hP hD hS ls (lv_sub hl [0, 1, 2] rfl)
    · have hlt : j < k := x_ltN (by omega) hj c_1
      refine lv_iload_n hx hb d_T_sum_12 rfl (lv_at hl 1 rfl) ?_
      refine lv_bipush (v := 31) hx hb d_T_sum_13 (by decide +kernel) ?_
      refine lv_imul hx hb d_T_sum_15 ?_
      refine lv_topi (fun x_2 ex_2 => ?_)
      refine lv_aload_n hx hb d_T_sum_16 rfl (lv_at hl 2 rfl) ?_
      refine va_get (D := (dC, dI)) (ci := 1) (v := .ref hy) (C := R_T) (T := F_T) (N := 2) hx hb hw0 in_T hown hK hP 0 rfl rfl 0 (by decide) (hw0 (.fieldLink R_T 9 "TextKeeper$Text" "bytes" "[B") (List.mem_of_getElem? (i := 61) rfl)) (fun _ h9 => h9) rfl d_T_sum_17 ?_
      refine lv_iload_n hx hb d_T_sum_20 rfl (lv_at hl 0 rfl) ?_
      refine va_bald hx hb hK hP 1 0 rfl rfl (vp_in_nI (by omega) (by decide)) d_T_sum_21 ?_
      refine lv_topi (fun x_3 ex_3 => ?_)
      refine lv_sipush (v := 255) hx hb d_T_sum_22 (by decide +kernel) ?_
      refine lv_iand hx hb d_T_sum_25 ?_
      refine lv_topi (fun x_4 ex_4 => ?_)
      refine lv_iadd hx hb d_T_sum_26 ?_
      refine lv_topi (fun x_5 ex_5 => ?_)
      refine lv_iconst (v := 1) hx hb d_T_sum_27 (by decide) ?_
      refine lv_iadd hx hb d_T_sum_28 ?_
      refine lv_topi (fun x_6 ex_6 => ?_)
      obtain rfl : x_6 = (sumL (L.take (j + 1))) := by rw [ex_6, ex_5, ex_2, ex_4, ex_3]; rw [sumL_take (by rw [htx.1]; exact hlt), nI_clamp (by omega), tx_at htx hlt]
      clear ex_6
      refine lv_istore_n (lv' := [(1, .int (sumL (L.take (j + 1)))), (2, .int (nI j)), (0, .ref h0)]) hx hb d_T_sum_29 rfl hl (by decide) rfl (fun ls hl => ?_)
      refine lv_iinc (v := nI (j + 1)) (lv' := [(2, .int (nI (j + 1))), (1, .int (sumL (L.take (j + 1)))), (0, .ref h0)]) hx hb d_T_sum_30 hl (k := 1) rfl (nI_1 j) (by decide) rfl (fun ls hl => ?_)
      refine lv_goto (tgt := 4) hx hb d_T_sum_33 (by decide) ?_
      exact ih (j + 1) hlt (by omega) _ _ hP hD hS ls (lv_sub hl [0, 1, 2] rfl)
set_option maxHeartbeats 4000000 in
set_option maxRecDepth 100000 in
theorem g_sum (l : Launch) (dC : Nat → ClassId) (dI : Nat → Nat → Nat) (sz : Nat) (h0 : Nat) (hy : Nat) (cB : ClassId) (k : Nat) (f : Nat → Int32) (L : List Int32) (htx : tx L k f) (hk : k ≤ 256) : Met l y_T_sum k_T_sum ({ frames := 0, cells := 0, slots := 0, locals := 0 } : Room) (va_Pc [.ref h0] (pc_E (dC, dI) [(h0, .inr (1, [.ref hy, .int (nI k)])), (hy, .inl (cB, 256, .inl (f)))] [(cB, .byte)] sz)) (va_Qi (fun (r : Int32) (_ : Unit) => r = sumL L) (fun (_ : Unit) t => at_E (dC, dI) (va_A [(h0, .inr (1, [.ref hy, .int (nI k)])), (hy, .inl (cB, 256, .inl (f)))] sz) [(h0, .inr (1, [.ref hy, .int (nI k)])), (hy, .inl (cB, 256, .inl (f)))] [(cB, .byte)] t) (va_A [(h0, .inr (1, [.ref hy, .int (nI k)])), (hy, .inl (cB, 256, .inl (f)))] sz)) 0 0 (va_A [(h0, .inr (1, [.ref hy, .int (nI k)])), (hy, .inl (cB, 256, .inl (f)))] sz) := by
  refine Met.ofW (cc := prog_7_method_8_code) (maxL := 3) (ret := (some .int)) (by decide) rfl ?_
  intro p e s m args below meth c s₁ B hml hv
  obtain ⟨rfl, hsz, hP, hK, hD0, hN⟩ := hv
  have hx := B.exec
  have hb := B.bytes
  have hr := B.returns
  have hts := atoms_spec (ws := k_T_sum) B.pre
  have hw0 : ∀ w ∈ w0, w.before _ s = true := fun w h => hts w (List.mem_cons_of_mem _ h)
  have hown : s.vm.findClass R_T = some m.cls := findClass_of_methodNamed B.named
  have hlocks := B.notSynchronized
  subst hsz
  have hD := hD0.self (sz := s.heap.size)
  generalize hAe : va_A [(h0, .inr (1, [.ref hy, .int (nI k)])), (hy, .inl (cB, 256, .inl (f)))] s.heap.size = A at hD ⊢
  have hA : ∀ q : Nat, s.heap.size ≤ q → A q := fun q h => by rw [← hAe]; exact Or.inr h
  have hS : va_S A s.heap s.heap [] := va_S.rf
  have hP : va_P (dC, dI) vwCl [(h0, .inr (1, [.ref hy, .int (nI k)])), (hy, .inl (cB, 256, .inl (f)))] s.heap := hP
  have hl := lv_entry ([.ref h0]) (n := 3) (Nat.le_of_ble_eq_true rfl)
  rw [lg_entry_eq]
  generalize (lg_sl ([.ref h0]) ++ List.replicate (3 - (lg_sl ([.ref h0])).length) Slot.unset).toArray = ls at hl ⊢
  have hl : lv_has ls 3 [(0, .ref h0)] := hl
  refine lv_iconst (v := 0) hx hb d_T_sum_0 (by decide) ?_
  refine lv_istore_n (lv' := [(1, .int 0), (0, .ref h0)]) hx hb d_T_sum_1 rfl hl (by decide) rfl (fun ls hl => ?_)
  refine lv_iconst (v := 0) hx hb d_T_sum_2 (by decide) ?_
  refine lv_istore_n (lv' := [(2, .int 0), (1, .int 0), (0, .ref h0)]) hx hb d_T_sum_3 rfl hl (by decide) rfl (fun ls hl => ?_)
  have hP8 := hP
  have hD8 := hD
  have hK8 := hK
  refine lq_sum h0 hy cB k f L htx hk hx hb hml hown hw0 hN hK8 hA (fun H locs hP hD hS ls hl => ?_) (k + 1) 0 (by omega) (by omega) _ _ hP8 hD8 hS ls (lv_sub hl [0, 1, 2] rfl)
  refine lv_iload_n hx hb d_T_sum_36 rfl (lv_at hl 1 rfl) ?_
  have hP9 := hP.sub (ws' := [(h0, .inr (1, [.ref hy, .int (nI k)])), (hy, .inl (cB, 256, .inl (f)))]) [0, 1] rfl
  have hD9 := hD.sub (ws' := [(h0, .inr (1, [.ref hy, .int (nI k)])), (hy, .inl (cB, 256, .inl (f)))]) [0, 1] (by decide) rfl
  have hK9 := hK.sub (tys' := [(cB, .byte)]) [0] rfl
  exact W.iret (v := (sumL (L.take k))) hx hb hr (fun t ht hW => ⟨⟨(sumL (L.take k)), (), rfl, (by rw [← htx.1, List.take_length]), by rw [ht]; exact hP9, va_K.moved hW.alike hK9, hD9⟩, hS.F ht⟩) hS.2.2 d_T_sum_37
set_option maxHeartbeats 4000000 in
set_option maxRecDepth 100000 in
theorem g_become (l : Launch) (dC : Nat → ClassId) (dI : Nat → Nat → Nat) (sz : Nat) (h0 : Nat) (hy : Nat) (cB : ClassId) (k : Nat) (f : Nat → Int32) (L : List Int32) (h2 : Nat) (hy2 : Nat) (cB2 : ClassId) (k2 : Nat) (fo : Nat → Int32) (L2 : List Int32) (htx : tx L k f) (htx2 : tx L2 k2 fo) (hk2 : k2 ≤ 256) : Met l y_T_become k_T_become ({ frames := 1, cells := 0, slots := 0, locals := 40 } : Room) (va_Pc [.ref h0, .ref h2] (pc_E (dC, dI) [(h0, .inr (1, [.ref hy, .int (nI k)])), (hy, .inl (cB, 256, .inl (f))), (h2, .inr (1, [.ref hy2, .int (nI k2)])), (hy2, .inl (cB2, 256, .inl (fo)))] [(cB, .byte), (cB2, .byte)] sz)) (va_Qv (fun (_ : Unit) => True) (fun (_ : Unit) t => ∃ (f2 : Nat → Int32), (tx L2 k2 f2) ∧ at_E (dC, dI) (va_A [(h0, .inr (1, [.ref hy, .int (nI k)])), (hy, .inl (cB, 256, .inl (f))), (h2, .inr (1, [.ref hy2, .int (nI k2)])), (hy2, .inl (cB2, 256, .inl (fo)))] sz) [(h0, .inr (1, [.ref hy, .int (nI k2)])), (hy, .inl (cB, 256, .inl (f2))), (h2, .inr (1, [.ref hy2, .int (nI k2)])), (hy2, .inl (cB2, 256, .inl (fo)))] [(cB, .byte), (cB2, .byte)] t) (va_A [(h0, .inr (1, [.ref hy, .int (nI k)])), (hy, .inl (cB, 256, .inl (f))), (h2, .inr (1, [.ref hy2, .int (nI k2)])), (hy2, .inl (cB2, 256, .inl (fo)))] sz)) 0 0 (va_A [(h0, .inr (1, [.ref hy, .int (nI k)])), (hy, .inl (cB, 256, .inl (f))), (h2, .inr (1, [.ref hy2, .int (nI k2)])), (hy2, .inl (cB2, 256, .inl (fo)))] sz) := by
  refine Met.ofW (cc := prog_7_method_7_code) (maxL := 2) (ret := none) (by decide) rfl ?_
  intro p e s m args below meth c s₁ B hml hv
  obtain ⟨rfl, hsz, hP, hK, hD0, hN⟩ := hv
  have hx := B.exec
  have hb := B.bytes
  have hr := B.returns
  have hts := atoms_spec (ws := k_T_become) B.pre
  have hw0 : ∀ w ∈ w0, w.before _ s = true := fun w h => hts w (List.mem_cons_of_mem _ h)
  have hown : s.vm.findClass R_T = some m.cls := findClass_of_methodNamed B.named
  have hlocks := B.notSynchronized
  subst hsz
  have hD := hD0.self (sz := s.heap.size)
  generalize hAe : va_A [(h0, .inr (1, [.ref hy, .int (nI k)])), (hy, .inl (cB, 256, .inl (f))), (h2, .inr (1, [.ref hy2, .int (nI k2)])), (hy2, .inl (cB2, 256, .inl (fo)))] s.heap.size = A at hD ⊢
  have hA : ∀ q : Nat, s.heap.size ≤ q → A q := fun q h => by rw [← hAe]; exact Or.inr h
  have hS : va_S A s.heap s.heap [] := va_S.rf
  have hP : va_P (dC, dI) vwCl [(h0, .inr (1, [.ref hy, .int (nI k)])), (hy, .inl (cB, 256, .inl (f))), (h2, .inr (1, [.ref hy2, .int (nI k2)])), (hy2, .inl (cB2, 256, .inl (fo)))] s.heap := hP
  have hl := lv_entry ([.ref h0, .ref h2]) (n := 2) (Nat.le_of_ble_eq_true rfl)
  rw [lg_entry_eq]
  generalize (lg_sl ([.ref h0, .ref h2]) ++ List.replicate (2 - (lg_sl ([.ref h0, .ref h2])).length) Slot.unset).toArray = ls at hl ⊢
  have hl : lv_has ls 2 [(0, .ref h0), (1, .ref h2)] := hl
  refine lv_aload_n hx hb d_T_become_0 rfl (lv_at hl 1 rfl) ?_
  refine va_get (D := (dC, dI)) (ci := 1) (v := .ref hy2) (C := R_T) (T := F_T) (N := 2) hx hb hw0 in_T hown hK hP 2 rfl rfl 0 (by decide) (hw0 (.fieldLink R_T 9 "TextKeeper$Text" "bytes" "[B") (List.mem_of_getElem? (i := 61) rfl)) (fun _ h9 => h9) rfl d_T_become_1 ?_
  refine lv_iconst (v := 0) hx hb d_T_become_4 (by decide) ?_
  refine lv_aload_n hx hb d_T_become_5 rfl (lv_at hl 0 rfl) ?_
  refine va_get (D := (dC, dI)) (ci := 1) (v := .ref hy) (C := R_T) (T := F_T) (N := 2) hx hb hw0 in_T hown hK hP 0 rfl rfl 0 (by decide) (hw0 (.fieldLink R_T 9 "TextKeeper$Text" "bytes" "[B") (List.mem_of_getElem? (i := 61) rfl)) (fun _ h9 => h9) rfl d_T_become_6 ?_
  refine lv_iconst (v := 0) hx hb d_T_become_9 (by decide) ?_
  refine lv_aload_n hx hb d_T_become_10 rfl (lv_at hl 1 rfl) ?_
  refine va_get (D := (dC, dI)) (ci := 1) (v := .int (nI k2)) (C := R_T) (T := F_T) (N := 2) hx hb hw0 in_T hown hK hP 2 rfl rfl 1 (by decide) (hw0 (.fieldLink R_T 15 "TextKeeper$Text" "length" "I") (List.mem_of_getElem? (i := 62) rfl)) (fun _ h9 => h9) rfl d_T_become_11 ?_
  refine va_copyi (ty := .byte) hx hb (hml.trans hl.1.symm) hown (hw0 (.methodLink R_T 23 ⟨"java/lang/System","arraycopy","(Ljava/lang/Object;ILjava/lang/Object;II)V"⟩) (List.mem_of_getElem? (i := 112) rfl)) (hw0 (.native ⟨"java/lang/System","arraycopy","(Ljava/lang/Object;ILjava/lang/Object;II)V"⟩) (List.mem_of_getElem? (i := 113) rfl)) (hw0 (.static ⟨"java/lang/System","arraycopy","(Ljava/lang/Object;ILjava/lang/Object;II)V"⟩) (List.mem_of_getElem? (i := 114) rfl)) (hw0 (.initialized "java/lang/System") (List.mem_of_getElem? (i := 115) rfl)) hK hP hD hS 3 1 1 0 rfl rfl rfl rfl rfl (by decide +kernel) (by decide +kernel) (nI_pos (by omega)) (by rw [sb_cl0, nI_clamp (by omega)]; omega) (by rw [sb_cl0, nI_clamp (by omega)]; omega) (fun i hi => by rw [nI_clamp (by omega)] at hi; rw [sb_cl0, Nat.zero_add]; exact fits_B (tx_inB htx2 hi)) (Nat.le_of_ble_eq_true rfl) (by decide +kernel) d_T_become_14 (fun H locs hP hD hS => ?_)
  replace hP : va_P (dC, dI) vwCl [(h0, .inr (1, [.ref hy, .int (nI k)])), (hy, .inl (cB, 256, .inl (va_cpy (fo) (f) (Int32.toNatClampNeg 0) (Int32.toNatClampNeg 0) (Int32.toNatClampNeg (nI k2))))), (h2, .inr (1, [.ref hy2, .int (nI k2)])), (hy2, .inl (cB2, 256, .inl (fo)))] H := hP
  replace hD : va_D A [(h0, .inr (1, [.ref hy, .int (nI k)])), (hy, .inl (cB, 256, .inl (va_cpy (fo) (f) (Int32.toNatClampNeg 0) (Int32.toNatClampNeg 0) (Int32.toNatClampNeg (nI k2))))), (h2, .inr (1, [.ref hy2, .int (nI k2)])), (hy2, .inl (cB2, 256, .inl (fo)))] := hD
  have eC : va_cpy (fo) (f) (Int32.toNatClampNeg 0) (Int32.toNatClampNeg 0) (Int32.toNatClampNeg (nI k2)) = va_cpy fo f 0 0 k2 := by rw [sb_cl0, nI_clamp (by omega)]
  rw [eC] at hP hD
  refine lv_aload_n hx hb d_T_become_17 rfl (lv_at hl 0 rfl) ?_
  refine lv_aload_n hx hb d_T_become_18 rfl (lv_at hl 1 rfl) ?_
  refine va_get (D := (dC, dI)) (ci := 1) (v := .int (nI k2)) (C := R_T) (T := F_T) (N := 2) hx hb hw0 in_T hown hK hP 2 rfl rfl 1 (by decide) (hw0 (.fieldLink R_T 15 "TextKeeper$Text" "length" "I") (List.mem_of_getElem? (i := 62) rfl)) (fun _ h9 => h9) rfl d_T_become_19 ?_
  refine va_put (D := (dC, dI)) (ci := 1) (v := .int (nI k2)) (ty := .int) (C := R_T) (T := F_T) (N := 2) hx hb hw0 in_T ft_T tk_T nk_T hown hK hP hD hS 0 rfl rfl 1 (by decide) (hw0 (.fieldLink R_T 15 "TextKeeper$Text" "length" "I") (List.mem_of_getElem? (i := 62) rfl)) (fun _ h9 => h9) rfl (by decide +kernel) rfl rfl (Nat.le_of_ble_eq_true rfl) d_T_become_22 (fun H locs hP hD hS => ?_)
  replace hP : va_P (dC, dI) vwCl [(h0, .inr (1, [.ref hy, .int (nI k2)])), (hy, .inl (cB, 256, .inl ((va_cpy fo f 0 0 k2)))), (h2, .inr (1, [.ref hy2, .int (nI k2)])), (hy2, .inl (cB2, 256, .inl (fo)))] H := hP
  replace hD : va_D A [(h0, .inr (1, [.ref hy, .int (nI k2)])), (hy, .inl (cB, 256, .inl ((va_cpy fo f 0 0 k2)))), (h2, .inr (1, [.ref hy2, .int (nI k2)])), (hy2, .inl (cB2, 256, .inl (fo)))] := hD
  have hP9 := hP.sub (ws' := [(h0, .inr (1, [.ref hy, .int (nI k2)])), (hy, .inl (cB, 256, .inl ((va_cpy fo f 0 0 k2)))), (h2, .inr (1, [.ref hy2, .int (nI k2)])), (hy2, .inl (cB2, 256, .inl (fo)))]) [0, 1, 2, 3] rfl
  have hD9 := hD.sub (ws' := [(h0, .inr (1, [.ref hy, .int (nI k2)])), (hy, .inl (cB, 256, .inl ((va_cpy fo f 0 0 k2)))), (h2, .inr (1, [.ref hy2, .int (nI k2)])), (hy2, .inl (cB2, 256, .inl (fo)))]) [0, 1, 2, 3] (by decide) rfl
  have hK9 := hK.sub (tys' := [(cB, .byte), (cB2, .byte)]) [0, 1] rfl
  exact W.vret hx hb hr (fun t ht hW => ⟨⟨(), rfl, trivial, (va_cpy fo f 0 0 k2), tx_cpy htx2, by rw [ht]; exact hP9, va_K.moved hW.alike hK9, hD9⟩, hS.F ht⟩) hS.2.2 d_T_become_25
set_option maxHeartbeats 4000000 in
set_option maxRecDepth 100000 in
theorem lq_run {p : Program} {l : Launch} {e : Env} {s : State} {m : MethodId} {args : Array Value} {below : List Frame} {meth : Method} {c : Code} {dC : Nat → ClassId} {dI : Nat → Nat → Nat} {Q : State → Prop} {H : Heap} {locs : List Loc} (h0 : Nat) (hy : Nat) (cB : ClassId) (k : Nat) (f : Nat → Int32) (L : List Int32) (h2 : Nat) (hy2 : Nat) (cB2 : ClassId) (k2 : Nat) (fo : Nat → Int32) (L2 : List Int32) (i : Nat) (j0 : Nat) (htx : tx L k f) (htx2 : tx L2 k2 fo) (hk : k ≤ 256) (hk2 : k2 ≤ 256) (hi : i ≤ k) (hj0 : j0 ≤ k2)
    (hx : p.tables.exec = Jvm.exec) (hb : c.code = prog_7_method_9_code) (hml : c.maxLocals = 6) (hown : s.vm.findClass R_T = some m.cls) (hw0 : ∀ w ∈ w0, w.before args s = true) (hN : nw_ok s) (hK : va_K (dC, dI) vwCl [(cB, .byte), (cB2, .byte)] s) (hP : va_P (dC, dI) vwCl [(h0, .inr (1, [.ref hy, .int (nI k)])), (hy, .inl (cB, 256, .inl (f))), (h2, .inr (1, [.ref hy2, .int (nI k2)])), (hy2, .inl (cB2, 256, .inl (fo)))] H)
    (kk : ∀ ls : Array Slot, lv_has ls 6 [(5, .int (nI (cpl (L.drop i) (L2.drop j0)))), (4, .int (nI (min (k - i) (k2 - j0)))), (0, .ref h0), (1, .int (nI i)), (2, .ref h2), (3, .int (nI j0))] → W p l e ({ frames := 1, cells := 0, slots := 0, locals := 24 } : Room) s m args below meth c H locs 0 0 Q (F0 m 54 ls [])) :
    ∀ (n j : Nat), j ≤ (min (k - i) (k2 - j0)) → (min (k - i) (k2 - j0)) < j + n → (∀ t, t < j → (L.drop i).getD t 0 = (L2.drop j0).getD t 0) → ∀ ls : Array Slot, lv_has ls 6 [(5, .int (nI j)), (4, .int (nI (min (k - i) (k2 - j0)))), (0, .ref h0), (1, .int (nI i)), (2, .ref h2), (3, .int (nI j0))] → W p l e ({ frames := 1, cells := 0, slots := 0, locals := 24 } : Room) s m args below meth c H locs 0 0 Q (F0 m 20 ls []) := by
  intro n
  induction n with
  | zero => intro j  h1 h2; exact absurd h2 (by omega)
  | succ n ih =>
    intro j  hj hn hf0 ls hl
    refine lv_iload hx hb d_T_runWith_20 (lv_at hl 0 rfl) ?_
    refine lv_iload hx hb d_T_runWith_22 (lv_at hl 1 rfl) ?_
    refine lv_icmp_ge (tgt := 54) hx hb d_T_runWith_24 (by decide) (fun c_1 => ?_) (fun c_1 => ?_)
    · have e9 : (cpl (L.drop i) (L2.drop j0)) = j := cpl_is (by rw [List.length_drop, htx.1]; omega) (by rw [List.length_drop, htx2.1]; omega) hf0 (by have h9 := x_geN (by omega) hj c_1; rcases Nat.le_total (k - i) (k2 - j0) with q | q; exact Or.inl (by rw [List.length_drop, htx.1]; omega); exact Or.inr (Or.inl (by rw [List.length_drop, htx2.1]; omega)))
      exact kk ls (by rw [e9]; exact (lv_sub hl [0, 1, 2, 3, 4, 5] rfl))
    · have hlt : j < (min (k - i) (k2 - j0)) := x_ltN (by omega) hj c_1
      refine lv_aload_n hx hb d_T_runWith_27 rfl (lv_at hl 2 rfl) ?_
      refine va_get (D := (dC, dI)) (ci := 1) (v := .ref hy) (C := R_T) (T := F_T) (N := 2) hx hb hw0 in_T hown hK hP 0 rfl rfl 0 (by decide) (hw0 (.fieldLink R_T 9 "TextKeeper$Text" "bytes" "[B") (List.mem_of_getElem? (i := 61) rfl)) (fun _ h9 => h9) rfl d_T_runWith_28 ?_
      refine lv_iload_n hx hb d_T_runWith_31 rfl (lv_at hl 3 rfl) ?_
      refine lv_iload hx hb d_T_runWith_32 (lv_at hl 0 rfl) ?_
      refine lv_iadd hx hb d_T_runWith_34 ?_
      refine lv_topi (fun x_2 ex_2 => ?_)
      obtain rfl : x_2 = (nI (i + j)) := by rw [ex_2]; exact nI_add i j
      clear ex_2
      refine va_bald hx hb hK hP 1 0 rfl rfl (vp_in_nI (by omega) (by decide)) d_T_runWith_35 ?_
      refine lv_topi (fun x_3 ex_3 => ?_)
      refine lv_aload_n hx hb d_T_runWith_36 rfl (lv_at hl 4 rfl) ?_
      refine va_get (D := (dC, dI)) (ci := 1) (v := .ref hy2) (C := R_T) (T := F_T) (N := 2) hx hb hw0 in_T hown hK hP 2 rfl rfl 0 (by decide) (hw0 (.fieldLink R_T 9 "TextKeeper$Text" "bytes" "[B") (List.mem_of_getElem? (i := 61) rfl)) (fun _ h9 => h9) rfl d_T_runWith_37 ?_
      refine lv_iload_n hx hb d_T_runWith_40 rfl (lv_at hl 5 rfl) ?_
      refine lv_iload hx hb d_T_runWith_41 (lv_at hl 0 rfl) ?_
      refine lv_iadd hx hb d_T_runWith_43 ?_
      refine lv_topi (fun x_4 ex_4 => ?_)
      obtain rfl : x_4 = (nI (j0 + j)) := by rw [ex_4]; exact nI_add j0 j
      clear ex_4
      refine va_bald hx hb hK hP 3 1 rfl rfl (vp_in_nI (by omega) (by decide)) d_T_runWith_44 ?_
      refine lv_topi (fun x_5 ex_5 => ?_)
      refine lv_icmp_ne (tgt := 54) hx hb d_T_runWith_45 (by decide) (fun c_6 => ?_) (fun c_6 => ?_)
      · have e9 : (cpl (L.drop i) (L2.drop j0)) = j := cpl_is (by rw [List.length_drop, htx.1]; omega) (by rw [List.length_drop, htx2.1]; omega) hf0 (Or.inr (Or.inr (fun h9 => c_6 (by rw [getD_drop, getD_drop] at h9; rw [ex_3, ex_5, nI_clamp (by omega), nI_clamp (by omega), tx_at htx (by omega), tx_at htx2 (by omega)]; exact h9))))
        exact kk ls (by rw [e9]; exact (lv_sub hl [0, 1, 2, 3, 4, 5] rfl))
      · refine lv_iinc (v := nI (j + 1)) (lv' := [(5, .int (nI (j + 1))), (4, .int (nI (min (k - i) (k2 - j0)))), (0, .ref h0), (1, .int (nI i)), (2, .ref h2), (3, .int (nI j0))]) hx hb d_T_runWith_48 hl (k := 0) rfl (nI_1 j) (by decide) rfl (fun ls hl => ?_)
        refine lv_goto (tgt := 20) hx hb d_T_runWith_51 (by decide) ?_
        exact ih (j + 1) hlt (by omega) (fun t ht => by rcases Nat.lt_or_ge t j with q | q; exact hf0 t q; obtain rfl : t = j := (by omega); have h9 := c_6; rw [ex_3, ex_5] at h9; rw [getD_drop, getD_drop]; rw [nI_clamp (by omega), nI_clamp (by omega), tx_at htx (by omega), tx_at htx2 (by omega)] at h9; exact h9) ls (lv_sub hl [0, 1, 2, 3, 4, 5] rfl)
set_option maxHeartbeats 4000000 in
set_option maxRecDepth 100000 in
theorem g_runWith (l : Launch) (dC : Nat → ClassId) (dI : Nat → Nat → Nat) (h0 : Nat) (hy : Nat) (cB : ClassId) (k : Nat) (f : Nat → Int32) (L : List Int32) (h2 : Nat) (hy2 : Nat) (cB2 : ClassId) (k2 : Nat) (fo : Nat → Int32) (L2 : List Int32) (i : Nat) (j0 : Nat) (htx : tx L k f) (htx2 : tx L2 k2 fo) (hk : k ≤ 256) (hk2 : k2 ≤ 256) (hi : i ≤ k) (hj0 : j0 ≤ k2) : Met l y_T_runWith k_T_runWith ({ frames := 1, cells := 0, slots := 0, locals := 24 } : Room) (va_Pc [.ref h0, .int (nI i), .ref h2, .int (nI j0)] (pc_R (dC, dI) [(h0, .inr (1, [.ref hy, .int (nI k)])), (hy, .inl (cB, 256, .inl (f))), (h2, .inr (1, [.ref hy2, .int (nI k2)])), (hy2, .inl (cB2, 256, .inl (fo)))] [(cB, .byte), (cB2, .byte)])) (vp_Si (fun r => r = nI (cpl (L.drop i) (L2.drop j0)))) 0 0 (fun _ => False) := by
  refine Met.ofW (cc := prog_7_method_9_code) (maxL := 6) (ret := (some .int)) (by decide) rfl ?_
  intro p e s m args below meth c s₁ B hml hv
  obtain ⟨rfl, hP, hK, hN⟩ := hv
  have hx := B.exec
  have hb := B.bytes
  have hr := B.returns
  have hts := atoms_spec (ws := k_T_runWith) B.pre
  have hw0 : ∀ w ∈ w0, w.before _ s = true := fun w h => hts w (List.mem_cons_of_mem _ h)
  have hown : s.vm.findClass R_T = some m.cls := findClass_of_methodNamed B.named
  have hlocks := B.notSynchronized
  have hP : va_P (dC, dI) vwCl [(h0, .inr (1, [.ref hy, .int (nI k)])), (hy, .inl (cB, 256, .inl (f))), (h2, .inr (1, [.ref hy2, .int (nI k2)])), (hy2, .inl (cB2, 256, .inl (fo)))] s.heap := hP
  have hl := lv_entry ([.ref h0, .int (nI i), .ref h2, .int (nI j0)]) (n := 6) (Nat.le_of_ble_eq_true rfl)
  rw [lg_entry_eq]
  generalize (lg_sl ([.ref h0, .int (nI i), .ref h2, .int (nI j0)]) ++ List.replicate (6 - (lg_sl ([.ref h0, .int (nI i), .ref h2, .int (nI j0)])).length) Slot.unset).toArray = ls at hl ⊢
  have hl : lv_has ls 6 [(0, .ref h0), (1, .int (nI i)), (2, .ref h2), (3, .int (nI j0))] := hl
  refine lv_aload_n hx hb d_T_runWith_0 rfl (lv_at hl 0 rfl) ?_
  refine va_get (D := (dC, dI)) (ci := 1) (v := .int (nI k)) (C := R_T) (T := F_T) (N := 2) hx hb hw0 in_T hown hK hP 0 rfl rfl 1 (by decide) (hw0 (.fieldLink R_T 15 "TextKeeper$Text" "length" "I") (List.mem_of_getElem? (i := 62) rfl)) (fun _ h9 => h9) rfl d_T_runWith_1 ?_
  refine lv_iload_n hx hb d_T_runWith_4 rfl (lv_at hl 1 rfl) ?_
  refine lv_isub hx hb d_T_runWith_5 ?_
  refine lv_topi (fun x_1 ex_1 => ?_)
  obtain rfl : x_1 = (nI (k - i)) := by rw [ex_1]; exact pk_sub hi
  clear ex_1
  refine lv_aload_n hx hb d_T_runWith_6 rfl (lv_at hl 2 rfl) ?_
  refine va_get (D := (dC, dI)) (ci := 1) (v := .int (nI k2)) (C := R_T) (T := F_T) (N := 2) hx hb hw0 in_T hown hK hP 2 rfl rfl 1 (by decide) (hw0 (.fieldLink R_T 15 "TextKeeper$Text" "length" "I") (List.mem_of_getElem? (i := 62) rfl)) (fun _ h9 => h9) rfl d_T_runWith_7 ?_
  refine lv_iload_n hx hb d_T_runWith_10 rfl (lv_at hl 3 rfl) ?_
  refine lv_isub hx hb d_T_runWith_11 ?_
  refine lv_topi (fun x_2 ex_2 => ?_)
  obtain rfl : x_2 = (nI (k2 - j0)) := by rw [ex_2]; exact pk_sub hj0
  clear ex_2
  refine va_mmin hx hb (hml.trans hl.1.symm) hown (hw0 (.methodLink R_T 29 ⟨"java/lang/Math","min","(II)I"⟩) (List.mem_of_getElem? (i := 117) rfl)) (hw0 (.static ⟨"java/lang/Math","min","(II)I"⟩) (List.mem_of_getElem? (i := 118) rfl)) (hw0 (.initialized "java/lang/Math") (List.mem_of_getElem? (i := 119) rfl)) (hw0 (.code Lib.Math.min.name Lib.Math.min.code 2 (some .int)) (List.mem_of_getElem? (i := 116) rfl)) (Nat.le_of_ble_eq_true rfl) (Nat.le_of_ble_eq_true rfl) (by decide +kernel) (by decide +kernel) d_T_runWith_12 ?_
  refine lv_topi (fun x_3 ex_3 => ?_)
  obtain rfl : x_3 = (nI (min (k - i) (k2 - j0))) := ex_3.trans (x_min (a := (k - i)) (b := (k2 - j0)) (by omega) (by omega))
  clear ex_3
  refine lv_istore (lv' := [(4, .int (nI (min (k - i) (k2 - j0)))), (0, .ref h0), (1, .int (nI i)), (2, .ref h2), (3, .int (nI j0))]) hx hb d_T_runWith_15 hl (by decide) rfl (fun ls hl => ?_)
  refine lv_iconst (v := 0) hx hb d_T_runWith_17 (by decide) ?_
  refine lv_istore (lv' := [(5, .int 0), (4, .int (nI (min (k - i) (k2 - j0)))), (0, .ref h0), (1, .int (nI i)), (2, .ref h2), (3, .int (nI j0))]) hx hb d_T_runWith_18 hl (by decide) rfl (fun ls hl => ?_)
  refine lq_run h0 hy cB k f L h2 hy2 cB2 k2 fo L2 i j0 htx htx2 hk hk2 hi hj0 hx hb hml hown hw0 hN hK hP (fun ls hl => ?_) ((min (k - i) (k2 - j0)) + 1) 0 (by omega) (by omega) (fun t ht => absurd ht (Nat.not_lt_zero t)) ls (lv_sub hl [0, 1, 2, 3, 4, 5] rfl)
  refine lv_iload hx hb d_T_runWith_54 (lv_at hl 0 rfl) ?_
  exact W.iret (v := (nI (cpl (L.drop i) (L2.drop j0)))) hx hb hr (fun t ht hW => ⟨(nI (cpl (L.drop i) (L2.drop j0))), rfl, rfl, ht⟩) (fun q h => by cases h) d_T_runWith_56
end
section
set_option maxHeartbeats 4000000 in
set_option maxRecDepth 100000 in
theorem g_writeByte (l : Launch) (dC : Nat → ClassId) (dI : Nat → Nat → Nat) (sz : Nat) (h0 : Nat) (hrw : Nat) (cR : ClassId) (q : Nat) (g : Nat → Int32) (P : List Int32) (a1 : Int32) (hp : tx P q g) (hq : q < 512) : Met l y_W_writeByte k_W_writeByte ({ frames := 0, cells := 0, slots := 0, locals := 0 } : Room) (va_Pc [.ref h0, .int a1] (pc_E (dC, dI) [(h0, .inr (3, [.ref hrw, .int (nI q)])), (hrw, .inl (cR, 512, .inl (g)))] [(cR, .byte)] sz)) (va_Qv (fun (_ : Unit) => True) (fun (_ : Unit) t => ∃ (g2 : Nat → Int32), (tx (P ++ [nbb a1]) (q + 1) g2) ∧ at_E (dC, dI) (va_A [(h0, .inr (3, [.ref hrw, .int (nI q)])), (hrw, .inl (cR, 512, .inl (g)))] sz) [(h0, .inr (3, [.ref hrw, .int (nI (q + 1))])), (hrw, .inl (cR, 512, .inl (g2)))] [(cR, .byte)] t) (va_A [(h0, .inr (3, [.ref hrw, .int (nI q)])), (hrw, .inl (cR, 512, .inl (g)))] sz)) 0 0 (va_A [(h0, .inr (3, [.ref hrw, .int (nI q)])), (hrw, .inl (cR, 512, .inl (g)))] sz) := by
  refine Met.ofW (cc := prog_4_method_8_code) (maxL := 2) (ret := none) (by decide) rfl ?_
  intro p e s m args below meth c s₁ B hml hv
  obtain ⟨rfl, hsz, hP, hK, hD0, hN⟩ := hv
  have hx := B.exec
  have hb := B.bytes
  have hr := B.returns
  have hts := atoms_spec (ws := k_W_writeByte) B.pre
  have hw0 : ∀ w ∈ w0, w.before _ s = true := fun w h => hts w (List.mem_cons_of_mem _ h)
  have hown : s.vm.findClass R_W = some m.cls := findClass_of_methodNamed B.named
  have hlocks := B.notSynchronized
  subst hsz
  have hD := hD0.self (sz := s.heap.size)
  generalize hAe : va_A [(h0, .inr (3, [.ref hrw, .int (nI q)])), (hrw, .inl (cR, 512, .inl (g)))] s.heap.size = A at hD ⊢
  have hA : ∀ q : Nat, s.heap.size ≤ q → A q := fun q h => by rw [← hAe]; exact Or.inr h
  have hS : va_S A s.heap s.heap [] := va_S.rf
  have hP : va_P (dC, dI) vwCl [(h0, .inr (3, [.ref hrw, .int (nI q)])), (hrw, .inl (cR, 512, .inl (g)))] s.heap := hP
  have hl := lv_entry ([.ref h0, .int a1]) (n := 2) (Nat.le_of_ble_eq_true rfl)
  rw [lg_entry_eq]
  generalize (lg_sl ([.ref h0, .int a1]) ++ List.replicate (2 - (lg_sl ([.ref h0, .int a1])).length) Slot.unset).toArray = ls at hl ⊢
  have hl : lv_has ls 2 [(0, .ref h0), (1, .int a1)] := hl
  refine lv_aload_n hx hb d_W_writeByte_0 rfl (lv_at hl 0 rfl) ?_
  refine va_get (D := (dC, dI)) (ci := 3) (v := .int (nI q)) (C := R_W) (T := F_W) (N := 2) hx hb hw0 in_W hown hK hP 0 rfl rfl 1 (by decide) (hw0 (.fieldLink R_W 15 "TextKeeper$PieceWriter" "length" "I") (List.mem_of_getElem? (i := 65) rfl)) (fun _ h9 => h9) rfl d_W_writeByte_1 ?_
  refine lv_aload_n hx hb d_W_writeByte_4 rfl (lv_at hl 0 rfl) ?_
  refine va_get (D := (dC, dI)) (ci := 3) (v := .ref hrw) (C := R_W) (T := F_W) (N := 2) hx hb hw0 in_W hown hK hP 0 rfl rfl 0 (by decide) (hw0 (.fieldLink R_W 9 "TextKeeper$PieceWriter" "row" "[B") (List.mem_of_getElem? (i := 64) rfl)) (fun _ h9 => h9) rfl d_W_writeByte_5 ?_
  refine va_alen (v := 512) hx hb hK hP 1 0 rfl rfl (show Int32.ofNat 512 = 512 from by decide +kernel) d_W_writeByte_8 ?_
  refine lv_icmp_ge (tgt := 33) hx hb d_W_writeByte_9 (by decide) (fun c_1 => absurd c_1 (nI_ge hq (by decide))) (fun c_1 => ?_)
  refine lv_aload_n hx hb d_W_writeByte_12 rfl (lv_at hl 0 rfl) ?_
  refine va_get (D := (dC, dI)) (ci := 3) (v := .ref hrw) (C := R_W) (T := F_W) (N := 2) hx hb hw0 in_W hown hK hP 0 rfl rfl 0 (by decide) (hw0 (.fieldLink R_W 9 "TextKeeper$PieceWriter" "row" "[B") (List.mem_of_getElem? (i := 64) rfl)) (fun _ h9 => h9) rfl d_W_writeByte_13 ?_
  refine lv_aload_n hx hb d_W_writeByte_16 rfl (lv_at hl 0 rfl) ?_
  refine va_get (D := (dC, dI)) (ci := 3) (v := .int (nI q)) (C := R_W) (T := F_W) (N := 2) hx hb hw0 in_W hown hK hP 0 rfl rfl 1 (by decide) (hw0 (.fieldLink R_W 15 "TextKeeper$PieceWriter" "length" "I") (List.mem_of_getElem? (i := 65) rfl)) (fun _ h9 => h9) rfl d_W_writeByte_17 ?_
  refine lv_iload_n hx hb d_W_writeByte_20 rfl (lv_at hl 1 rfl) ?_
  obtain ⟨x_2, ex_2⟩ : ∃ y : Int32, a1.toInt8.toInt32 = y := ⟨_, rfl⟩
  refine lv_i2b (v := x_2) hx hb d_W_writeByte_21 ex_2 ?_
  refine va_bast hx hb hK hP hD hS 1 0 rfl rfl (vp_in_nI hq (by decide)) d_W_writeByte_22 (fun H locs hP hD hS => ?_)
  replace hP : va_P (dC, dI) vwCl [(h0, .inr (3, [.ref hrw, .int (nI q)])), (hrw, .inl (cR, 512, .inl (upd (g) (Int32.toNatClampNeg (nI q)) (vp_nar .byte (x_2)))))] H := hP
  replace hD : va_D A [(h0, .inr (3, [.ref hrw, .int (nI q)])), (hrw, .inl (cR, 512, .inl (upd (g) (Int32.toNatClampNeg (nI q)) (vp_nar .byte (x_2)))))] := hD
  have eS : upd (g) (Int32.toNatClampNeg (nI q)) (vp_nar .byte (x_2)) = upd g q (nbb a1) := by rw [nI_clamp (by omega), ← ex_2]; exact congrArg (upd g q) (pk_vb a1)
  rw [eS] at hP hD
  refine lv_aload_n hx hb d_W_writeByte_23 rfl (lv_at hl 0 rfl) ?_
  refine lv_dup hx hb d_W_writeByte_24 rfl ?_
  refine va_get (D := (dC, dI)) (ci := 3) (v := .int (nI q)) (C := R_W) (T := F_W) (N := 2) hx hb hw0 in_W hown hK hP 0 rfl rfl 1 (by decide) (hw0 (.fieldLink R_W 15 "TextKeeper$PieceWriter" "length" "I") (List.mem_of_getElem? (i := 65) rfl)) (fun _ h9 => h9) rfl d_W_writeByte_25 ?_
  refine lv_iconst (v := 1) hx hb d_W_writeByte_28 (by decide) ?_
  refine lv_iadd hx hb d_W_writeByte_29 ?_
  refine lv_topi (fun x_3 ex_3 => ?_)
  obtain rfl : x_3 = (nI (q + 1)) := by rw [ex_3]; exact nI_1 q
  clear ex_3
  refine va_put (D := (dC, dI)) (ci := 3) (v := .int (nI (q + 1))) (ty := .int) (C := R_W) (T := F_W) (N := 2) hx hb hw0 in_W ft_W tk_W nk_W hown hK hP hD hS 0 rfl rfl 1 (by decide) (hw0 (.fieldLink R_W 15 "TextKeeper$PieceWriter" "length" "I") (List.mem_of_getElem? (i := 65) rfl)) (fun _ h9 => h9) rfl (by decide +kernel) rfl rfl (Nat.le_of_ble_eq_true rfl) d_W_writeByte_30 (fun H locs hP hD hS => ?_)
  replace hP : va_P (dC, dI) vwCl [(h0, .inr (3, [.ref hrw, .int (nI (q + 1))])), (hrw, .inl (cR, 512, .inl ((upd g q (nbb a1)))))] H := hP
  replace hD : va_D A [(h0, .inr (3, [.ref hrw, .int (nI (q + 1))])), (hrw, .inl (cR, 512, .inl ((upd g q (nbb a1)))))] := hD
  have hP9 := hP.sub (ws' := [(h0, .inr (3, [.ref hrw, .int (nI (q + 1))])), (hrw, .inl (cR, 512, .inl ((upd g q (nbb a1)))))]) [0, 1] rfl
  have hD9 := hD.sub (ws' := [(h0, .inr (3, [.ref hrw, .int (nI (q + 1))])), (hrw, .inl (cR, 512, .inl ((upd g q (nbb a1)))))]) [0, 1] (by decide) rfl
  have hK9 := hK.sub (tys' := [(cR, .byte)]) [0] rfl
  exact W.vret hx hb hr (fun t ht hW => ⟨⟨(), rfl, trivial, (upd g q (nbb a1)), tx_push hp (nbb_B a1), by rw [ht]; exact hP9, va_K.moved hW.alike hK9, hD9⟩, hS.F ht⟩) hS.2.2 d_W_writeByte_33
set_option maxHeartbeats 4000000 in
set_option maxRecDepth 100000 in
theorem g_digitsOf (l : Launch) (dC : Nat → ClassId) (dI : Nat → Nat → Nat) (n : Nat) (hn : n < 16384) : Met l y_W_digitsOf k_W_digitsOf ({ frames := 0, cells := 0, slots := 0, locals := 0 } : Room) (va_Pc [.int (nI n)] (pc_R (dC, dI) [] [])) (vp_Si (fun r => r = nI (dgt n))) 0 0 (fun _ => False) := by
  refine Met.ofW (cc := prog_4_method_7_code) (maxL := 3) (ret := (some .int)) (by decide) rfl ?_
  intro p e s m args below meth c s₁ B hml hv
  obtain ⟨rfl, hP, hK, hN⟩ := hv
  have hx := B.exec
  have hb := B.bytes
  have hr := B.returns
  have hts := atoms_spec (ws := k_W_digitsOf) B.pre
  have hw0 : ∀ w ∈ w0, w.before _ s = true := fun w h => hts w (List.mem_cons_of_mem _ h)
  have hown : s.vm.findClass R_W = some m.cls := findClass_of_methodNamed B.named
  have hlocks := B.notSynchronized
  have hP : va_P (dC, dI) vwCl [] s.heap := hP
  have hl := lv_entry ([.int (nI n)]) (n := 3) (Nat.le_of_ble_eq_true rfl)
  rw [lg_entry_eq]
  generalize (lg_sl ([.int (nI n)]) ++ List.replicate (3 - (lg_sl ([.int (nI n)])).length) Slot.unset).toArray = ls at hl ⊢
  have hl : lv_has ls 3 [(0, .int (nI n))] := hl
  refine lv_iconst (v := 1) hx hb d_W_digitsOf_0 (by decide) ?_
  refine lv_istore_n (lv' := [(1, .int 1), (0, .int (nI n))]) hx hb d_W_digitsOf_1 rfl hl (by decide) rfl (fun ls hl => ?_)
  refine lv_iload_n hx hb d_W_digitsOf_2 rfl (lv_at hl 1 rfl) ?_
  refine lv_sipush (v := 128) hx hb d_W_digitsOf_3 (by decide +kernel) ?_
  refine lv_idiv hx hb d_W_digitsOf_6 (by decide +kernel) ?_
  refine lv_topi (fun x_1 ex_1 => ?_)
  obtain rfl : x_1 = (nI (n / 128)) := by rw [ex_1]; exact (show nI (n) / nI 128 = nI (n / 128) from pk_div (by omega) (by decide) (by decide))
  clear ex_1
  refine lv_istore_n (lv' := [(2, .int (nI (n / 128))), (1, .int 1), (0, .int (nI n))]) hx hb d_W_digitsOf_7 rfl hl (by decide) rfl (fun ls hl => ?_)
  refine lv_iload_n hx hb d_W_digitsOf_8 rfl (lv_at hl 0 rfl) ?_
  refine lv_if_le (tgt := 24) hx hb d_W_digitsOf_9 (by decide) (fun c_2 => ?_) (fun c_2 => ?_)
  · refine lv_iload_n hx hb d_W_digitsOf_24 rfl (lv_at hl 1 rfl) ?_
    exact W.iret (v := 1) hx hb hr (fun t ht hW => ⟨1, rfl, (by have h9 := mt (fun q => nI_nle (n := n / 128) q (by omega)) (fun q => q c_2); rw [dgt, if_pos (by omega)]; rfl), ht⟩) (fun q h => by cases h) d_W_digitsOf_25
  · refine lv_iinc (v := 2) (lv' := [(1, .int 2), (2, .int (nI (n / 128))), (0, .int (nI n))]) hx hb d_W_digitsOf_12 hl (k := 1) rfl (by decide +kernel) (by decide) rfl (fun ls hl => ?_)
    refine lv_iload_n hx hb d_W_digitsOf_15 rfl (lv_at hl 1 rfl) ?_
    refine lv_sipush (v := 128) hx hb d_W_digitsOf_16 (by decide +kernel) ?_
    refine lv_idiv hx hb d_W_digitsOf_19 (by decide +kernel) ?_
    refine lv_topi (fun x_3 ex_3 => ?_)
    obtain rfl : x_3 = (nI (n / 128 / 128)) := by rw [ex_3]; exact (show nI (n / 128) / nI 128 = nI (n / 128 / 128) from pk_div (by omega) (by decide) (by decide))
    clear ex_3
    refine lv_istore_n (lv' := [(2, .int (nI (n / 128 / 128))), (1, .int 2), (0, .int (nI n))]) hx hb d_W_digitsOf_20 rfl hl (by decide) rfl (fun ls hl => ?_)
    refine lv_goto (tgt := 8) hx hb d_W_digitsOf_21 (by decide) ?_
    refine lv_iload_n hx hb d_W_digitsOf_8 rfl (lv_at hl 0 rfl) ?_
    refine lv_if_le (tgt := 24) hx hb d_W_digitsOf_9 (by decide) (fun c_4 => ?_) (fun c_4 => absurd (show nI (n / 128 / 128) ≤ nI 0 from nI_le (by omega) (by decide)) c_4)
    refine lv_iload_n hx hb d_W_digitsOf_24 rfl (lv_at hl 1 rfl) ?_
    exact W.iret (v := 2) hx hb hr (fun t ht hW => ⟨2, rfl, (by have h9 : ¬ n / 128 = 0 := fun q => c_2 (by rw [q]; decide); rw [dgt, if_neg (by omega)]; rfl), ht⟩) (fun q h => by cases h) d_W_digitsOf_25
set_option maxHeartbeats 4000000 in
set_option maxRecDepth 100000 in
theorem g_writeNumber (l : Launch) (dC : Nat → ClassId) (dI : Nat → Nat → Nat) (sz : Nat) (h0 : Nat) (hrw : Nat) (cR : ClassId) (q : Nat) (g : Nat → Int32) (P : List Int32) (n : Nat) (hp : tx P q g) (hn : n < 16384) (hq : q + dgt n ≤ 512) : Met l y_W_writeNumber k_W_writeNumber ({ frames := 1, cells := 0, slots := 0, locals := 22 } : Room) (va_Pc [.ref h0, .int (nI n)] (pc_E (dC, dI) [(h0, .inr (3, [.ref hrw, .int (nI q)])), (hrw, .inl (cR, 512, .inl (g)))] [(cR, .byte)] sz)) (va_Qv (fun (_ : Unit) => True) (fun (_ : Unit) t => ∃ (q2 : Nat) (g2 : Nat → Int32), (q2 = q + dgt n ∧ tx (P ++ encN n) q2 g2) ∧ at_E (dC, dI) (va_A [(h0, .inr (3, [.ref hrw, .int (nI q)])), (hrw, .inl (cR, 512, .inl (g)))] sz) [(h0, .inr (3, [.ref hrw, .int (nI q2)])), (hrw, .inl (cR, 512, .inl (g2)))] [(cR, .byte)] t) (va_A [(h0, .inr (3, [.ref hrw, .int (nI q)])), (hrw, .inl (cR, 512, .inl (g)))] sz)) 0 0 (va_A [(h0, .inr (3, [.ref hrw, .int (nI q)])), (hrw, .inl (cR, 512, .inl (g)))] sz) := by
  refine Met.ofW (cc := prog_4_method_6_code) (maxL := 4) (ret := none) (by decide) rfl ?_
  intro p e s m args below meth c s₁ B hml hv
  obtain ⟨rfl, hsz, hP, hK, hD0, hN⟩ := hv
  have hx := B.exec
  have hb := B.bytes
  have hr := B.returns
  have hts := atoms_spec (ws := k_W_writeNumber) B.pre
  have hw0 : ∀ w ∈ w0, w.before _ s = true := fun w h => hts w (List.mem_cons_of_mem _ h)
  have hown : s.vm.findClass R_W = some m.cls := findClass_of_methodNamed B.named
  have hlocks := B.notSynchronized
  subst hsz
  have hD := hD0.self (sz := s.heap.size)
  generalize hAe : va_A [(h0, .inr (3, [.ref hrw, .int (nI q)])), (hrw, .inl (cR, 512, .inl (g)))] s.heap.size = A at hD ⊢
  have hA : ∀ q : Nat, s.heap.size ≤ q → A q := fun q h => by rw [← hAe]; exact Or.inr h
  have hS : va_S A s.heap s.heap [] := va_S.rf
  have hP : va_P (dC, dI) vwCl [(h0, .inr (3, [.ref hrw, .int (nI q)])), (hrw, .inl (cR, 512, .inl (g)))] s.heap := hP
  have hl := lv_entry ([.ref h0, .int (nI n)]) (n := 4) (Nat.le_of_ble_eq_true rfl)
  rw [lg_entry_eq]
  generalize (lg_sl ([.ref h0, .int (nI n)]) ++ List.replicate (4 - (lg_sl ([.ref h0, .int (nI n)])).length) Slot.unset).toArray = ls at hl ⊢
  have hl : lv_has ls 4 [(0, .ref h0), (1, .int (nI n))] := hl
  have hd := dgt_le n
  refine lv_iload_n hx hb d_W_writeNumber_0 rfl (lv_at hl 1 rfl) ?_
  refine lv_istore_n (lv' := [(2, .int (nI n)), (0, .ref h0), (1, .int (nI n))]) hx hb d_W_writeNumber_1 rfl hl (by decide) rfl (fun ls hl => ?_)
  refine lv_iload_n hx hb d_W_writeNumber_2 rfl (lv_at hl 2 rfl) ?_
  have hPc := hP.sub (ws' := []) [] rfl
  have hKc := hK.sub (tys' := []) [] rfl
  refine ps_i (va_runS (As := [.int (nI n)]) (rest := []) ⟨hx, hb, hml, hown, hw0⟩ (g_digitsOf l dC dI n (by first | assumption | decide | omega)) (va_cwS 1 hw0 (gd_S 120 121 94 122 rfl rfl rfl rfl) rfl rfl rfl (by decide +kernel) ⟨by decide +kernel, by decide +kernel⟩) (prS_R hPc hKc hN) rfl rfl hl.1 rfl (lv_room (Nat.le_of_ble_eq_true rfl)) d_W_writeNumber_3 ⟨by decide +kernel, by decide +kernel⟩) (fun r_1 hr_1 => ?_)
  obtain rfl : r_1 = (nI (dgt n)) := hr_1
  refine lv_istore_n (lv' := [(3, .int (nI (dgt n))), (2, .int (nI n)), (0, .ref h0), (1, .int (nI n))]) hx hb d_W_writeNumber_6 rfl hl (by decide) rfl (fun ls hl => ?_)
  refine lv_iload_n hx hb d_W_writeNumber_7 rfl (lv_at hl 0 rfl) ?_
  refine lv_iconst (v := 1) hx hb d_W_writeNumber_8 (by decide) ?_
  refine lv_icmp_le (tgt := 37) hx hb d_W_writeNumber_9 (by decide) (fun c_2 => ?_) (fun c_2 => ?_)
  · refine lv_aload_n hx hb d_W_writeNumber_37 rfl (lv_at hl 2 rfl) ?_
    refine lv_iload_n hx hb d_W_writeNumber_38 rfl (lv_at hl 1 rfl) ?_
    have hPc := hP.sub (ws' := [(h0, .inr (3, [.ref hrw, .int (nI q)])), (hrw, .inl (cR, 512, .inl ((g))))]) [0, 1] rfl
    have hKc := hK.sub (tys' := [(cR, .byte)]) [0] rfl
    have hDc := hD.sub (ws' := [(h0, .inr (3, [.ref hrw, .int (nI q)])), (hrw, .inl (cR, 512, .inl ((g))))]) [0, 1] (by decide) rfl
    have hFc := va_free (wc := [(h0, .inr (3, [.ref hrw, .int (nI q)])), (hrw, .inl (cR, 512, .inl ((g))))]) hD hS hA [0, 1] rfl
    refine va_callv (va_runV (As := [.int (nI n)]) (rest := []) ⟨hx, hb, hml, hown, hw0⟩ (g_writeByte l dC dI s.heap.size h0 hrw cR q (g) _ (nI n) (by first | assumption | decide | omega) (by first | assumption | decide | omega)) (cwV 1 hw0 (gd_V 123 124 125 94 126 rfl rfl rfl rfl rfl) rfl rfl rfl (by decide +kernel) ⟨by decide +kernel, by decide +kernel⟩) (prV_E hPc hKc hDc hN (va_recv hKc hPc (ci := 3) (q0 := 0) rfl rfl)) rfl rfl hl.1 rfl (lv_room (Nat.le_of_ble_eq_true rfl)) d_W_writeNumber_39 ⟨by decide +kernel, by decide +kernel⟩) hS (fun q _ h => hFc q h) hFc (fun u t H1 locs ht hvm hw hB hz1 hk1 hS => ?_)
    obtain ⟨g2_3, hu_4, hP1, hK1, hD1⟩ := hB
    rw [ht] at hP1
    have hK1 := va_K.moved hvm.symm hK1
    try dsimp only at hw
    obtain ⟨hP, hD⟩ := va_join (wr := []) (w1 := [(h0, .inr (3, [.ref hrw, .int (nI (q + 1))])), (hrw, .inl (cR, 512, .inl (g2_3)))]) hP hD [0, 1] [] rfl rfl (by decide) (by decide) hk1 hFc hP1 hD1
    generalize H1 = H at hP hS ⊢
    replace hP : va_P (dC, dI) vwCl [(h0, .inr (3, [.ref hrw, .int (nI (q + 1))])), (hrw, .inl (cR, 512, .inl (g2_3)))] H := hP
    replace hD : va_D A [(h0, .inr (3, [.ref hrw, .int (nI (q + 1))])), (hrw, .inl (cR, 512, .inl (g2_3)))] := hD
    replace hK : va_K (dC, dI) vwCl [(cR, .byte)] s := hK
    have hP9 := hP.sub (ws' := [(h0, .inr (3, [.ref hrw, .int (nI (q + 1))])), (hrw, .inl (cR, 512, .inl (g2_3)))]) [0, 1] rfl
    have hD9 := hD.sub (ws' := [(h0, .inr (3, [.ref hrw, .int (nI (q + 1))])), (hrw, .inl (cR, 512, .inl (g2_3)))]) [0, 1] (by decide) rfl
    have hK9 := hK.sub (tys' := [(cR, .byte)]) [0] rfl
    exact W.vret hx hb hr (fun t ht hW => ⟨⟨(), rfl, trivial, (q + 1), g2_3, (x_en1 c_2 hu_4), by rw [ht]; exact hP9, va_K.moved hW.alike hK9, hD9⟩, hS.F ht⟩) hS.2.2 d_W_writeNumber_42
  · have hd2 : dgt n = 2 := x_dg2 c_2
    refine lv_aload_n hx hb d_W_writeNumber_12 rfl (lv_at hl 2 rfl) ?_
    refine lv_iload_n hx hb d_W_writeNumber_13 rfl (lv_at hl 1 rfl) ?_
    refine lv_sipush (v := 128) hx hb d_W_writeNumber_14 (by decide +kernel) ?_
    refine lv_irem hx hb d_W_writeNumber_17 (by decide +kernel) ?_
    refine lv_topi (fun x_5 ex_5 => ?_)
    obtain rfl : x_5 = (nI (n % 128)) := by rw [ex_5]; exact (show nI n - nI n / nI 128 * nI 128 = nI (n % 128) from pk_rem (by omega) (by decide) (by decide))
    clear ex_5
    refine lv_sipush (v := 128) hx hb d_W_writeNumber_18 (by decide +kernel) ?_
    refine lv_iadd hx hb d_W_writeNumber_21 ?_
    refine lv_topi (fun x_6 ex_6 => ?_)
    obtain rfl : x_6 = (nI (n % 128 + 128)) := by rw [ex_6]; exact nI_add (n % 128) 128
    clear ex_6
    have hPc := hP.sub (ws' := [(h0, .inr (3, [.ref hrw, .int (nI q)])), (hrw, .inl (cR, 512, .inl ((g))))]) [0, 1] rfl
    have hKc := hK.sub (tys' := [(cR, .byte)]) [0] rfl
    have hDc := hD.sub (ws' := [(h0, .inr (3, [.ref hrw, .int (nI q)])), (hrw, .inl (cR, 512, .inl ((g))))]) [0, 1] (by decide) rfl
    have hFc := va_free (wc := [(h0, .inr (3, [.ref hrw, .int (nI q)])), (hrw, .inl (cR, 512, .inl ((g))))]) hD hS hA [0, 1] rfl
    refine va_callv (va_runV (As := [.int (nI (n % 128 + 128))]) (rest := []) ⟨hx, hb, hml, hown, hw0⟩ (g_writeByte l dC dI s.heap.size h0 hrw cR q (g) _ (nI (n % 128 + 128)) (by first | assumption | decide | omega) (by first | assumption | decide | omega)) (cwV 1 hw0 (gd_V 123 124 125 94 126 rfl rfl rfl rfl rfl) rfl rfl rfl (by decide +kernel) ⟨by decide +kernel, by decide +kernel⟩) (prV_E hPc hKc hDc hN (va_recv hKc hPc (ci := 3) (q0 := 0) rfl rfl)) rfl rfl hl.1 rfl (lv_room (Nat.le_of_ble_eq_true rfl)) d_W_writeNumber_22 ⟨by decide +kernel, by decide +kernel⟩) hS (fun q _ h => hFc q h) hFc (fun u t H1 locs ht hvm hw hB hz1 hk1 hS => ?_)
    obtain ⟨g2_7, hu_8, hP1, hK1, hD1⟩ := hB
    rw [ht] at hP1
    have hK1 := va_K.moved hvm.symm hK1
    try dsimp only at hw
    obtain ⟨hP, hD⟩ := va_join (wr := []) (w1 := [(h0, .inr (3, [.ref hrw, .int (nI (q + 1))])), (hrw, .inl (cR, 512, .inl (g2_7)))]) hP hD [0, 1] [] rfl rfl (by decide) (by decide) hk1 hFc hP1 hD1
    generalize H1 = H at hP hS ⊢
    replace hP : va_P (dC, dI) vwCl [(h0, .inr (3, [.ref hrw, .int (nI (q + 1))])), (hrw, .inl (cR, 512, .inl (g2_7)))] H := hP
    replace hD : va_D A [(h0, .inr (3, [.ref hrw, .int (nI (q + 1))])), (hrw, .inl (cR, 512, .inl (g2_7)))] := hD
    replace hK : va_K (dC, dI) vwCl [(cR, .byte)] s := hK
    refine lv_iload_n hx hb d_W_writeNumber_25 rfl (lv_at hl 1 rfl) ?_
    refine lv_sipush (v := 128) hx hb d_W_writeNumber_26 (by decide +kernel) ?_
    refine lv_idiv hx hb d_W_writeNumber_29 (by decide +kernel) ?_
    refine lv_topi (fun x_9 ex_9 => ?_)
    obtain rfl : x_9 = (nI (n / 128)) := by rw [ex_9]; exact (show nI (n) / nI 128 = nI (n / 128) from pk_div (by omega) (by decide) (by decide))
    clear ex_9
    refine lv_istore_n (lv' := [(2, .int (nI (n / 128))), (3, .int (nI (dgt n))), (0, .ref h0), (1, .int (nI n))]) hx hb d_W_writeNumber_30 rfl hl (by decide) rfl (fun ls hl => ?_)
    obtain ⟨x_10, ex_10⟩ : ∃ y : Int32, y = (nI (dgt n)) + (-1) := ⟨_, rfl⟩
    refine lv_iinc (v := x_10) (lv' := [(3, .int x_10), (2, .int (nI (n / 128))), (0, .ref h0), (1, .int (nI n))]) hx hb d_W_writeNumber_31 hl (k := 1) rfl (by rw [ex_10]; rfl) (by decide) rfl (fun ls hl => ?_)
    refine lv_goto (tgt := 7) hx hb d_W_writeNumber_34 (by decide) ?_
    refine lv_iload_n hx hb d_W_writeNumber_7 rfl (lv_at hl 0 rfl) ?_
    refine lv_iconst (v := 1) hx hb d_W_writeNumber_8 (by decide) ?_
    refine lv_icmp_le (tgt := 37) hx hb d_W_writeNumber_9 (by decide) (fun c_11 => ?_) (fun c_11 => absurd (x_dg ex_10) c_11)
    refine lv_aload_n hx hb d_W_writeNumber_37 rfl (lv_at hl 2 rfl) ?_
    refine lv_iload_n hx hb d_W_writeNumber_38 rfl (lv_at hl 1 rfl) ?_
    have hPc := hP.sub (ws' := [(h0, .inr (3, [.ref hrw, .int (nI (q + 1))])), (hrw, .inl (cR, 512, .inl ((g2_7))))]) [0, 1] rfl
    have hKc := hK.sub (tys' := [(cR, .byte)]) [0] rfl
    have hDc := hD.sub (ws' := [(h0, .inr (3, [.ref hrw, .int (nI (q + 1))])), (hrw, .inl (cR, 512, .inl ((g2_7))))]) [0, 1] (by decide) rfl
    have hFc := va_free (wc := [(h0, .inr (3, [.ref hrw, .int (nI (q + 1))])), (hrw, .inl (cR, 512, .inl ((g2_7))))]) hD hS hA [0, 1] rfl
    refine va_callv (va_runV (As := [.int (nI (n / 128))]) (rest := []) ⟨hx, hb, hml, hown, hw0⟩ (g_writeByte l dC dI H.size h0 hrw cR (q + 1) (g2_7) _ (nI (n / 128)) (by first | assumption | decide | omega) (by first | assumption | decide | omega)) (cwV 1 hw0 (gd_V 123 124 125 94 126 rfl rfl rfl rfl rfl) rfl rfl rfl (by decide +kernel) ⟨by decide +kernel, by decide +kernel⟩) (prV_E hPc hKc hDc hN (va_recv hKc hPc (ci := 3) (q0 := 0) rfl rfl)) rfl rfl hl.1 rfl (lv_room (Nat.le_of_ble_eq_true rfl)) d_W_writeNumber_39 ⟨by decide +kernel, by decide +kernel⟩) hS (fun q _ h => hFc q h) hFc (fun u t H1 locs ht hvm hw hB hz1 hk1 hS => ?_)
    obtain ⟨g2_12, hu_13, hP1, hK1, hD1⟩ := hB
    rw [ht] at hP1
    have hK1 := va_K.moved hvm.symm hK1
    try dsimp only at hw
    obtain ⟨hP, hD⟩ := va_join (wr := []) (w1 := [(h0, .inr (3, [.ref hrw, .int (nI ((q + 1) + 1))])), (hrw, .inl (cR, 512, .inl (g2_12)))]) hP hD [0, 1] [] rfl rfl (by decide) (by decide) hk1 hFc hP1 hD1
    generalize H1 = H at hP hS ⊢
    replace hP : va_P (dC, dI) vwCl [(h0, .inr (3, [.ref hrw, .int (nI ((q + 1) + 1))])), (hrw, .inl (cR, 512, .inl (g2_12)))] H := hP
    replace hD : va_D A [(h0, .inr (3, [.ref hrw, .int (nI ((q + 1) + 1))])), (hrw, .inl (cR, 512, .inl (g2_12)))] := hD
    replace hK : va_K (dC, dI) vwCl [(cR, .byte)] s := hK
    have hP9 := hP.sub (ws' := [(h0, .inr (3, [.ref hrw, .int (nI ((q + 1) + 1))])), (hrw, .inl (cR, 512, .inl (g2_12)))]) [0, 1] rfl
    have hD9 := hD.sub (ws' := [(h0, .inr (3, [.ref hrw, .int (nI ((q + 1) + 1))])), (hrw, .inl (cR, 512, .inl (g2_12)))]) [0, 1] (by decide) rfl
    have hK9 := hK.sub (tys' := [(cR, .byte)]) [0] rfl
    exact W.vret hx hb hr (fun t ht hW => ⟨⟨(), rfl, trivial, ((q + 1) + 1), g2_12, (x_en2 c_2 hu_13), by rw [ht]; exact hP9, va_K.moved hW.alike hK9, hD9⟩, hS.F ht⟩) hS.2.2 d_W_writeNumber_42
set_option maxHeartbeats 4000000 in
set_option maxRecDepth 100000 in
theorem lq_ins {p : Program} {l : Launch} {e : Env} {s : State} {m : MethodId} {args : Array Value} {below : List Frame} {meth : Method} {c : Code} {dC : Nat → ClassId} {dI : Nat → Nat → Nat} {A : Nat → Prop} {Q : State → Prop} (h0 : Nat) (hrw : Nat) (cR : ClassId) (q : Nat) (h1 : Nat) (hy : Nat) (cB : ClassId) (k : Nat) (f : Nat → Int32) (L : List Int32) (a : Nat) (b : Nat) (P : List Int32) (htx : tx L k f) (hk : k ≤ 256) (hb9 : b ≤ k) (hq : q + (b - a) ≤ 512)
    (hx : p.tables.exec = Jvm.exec) (hb : c.code = prog_4_method_5_code) (hml : c.maxLocals = 5) (hown : s.vm.findClass R_W = some m.cls) (hw0 : ∀ w ∈ w0, w.before args s = true) (hN : nw_ok s) (hK : va_K (dC, dI) vwCl [(cR, .byte), (cB, .byte)] s) (hA : ∀ q : Nat, s.heap.size ≤ q → A q)
    (kk : ∀ (g : Nat → Int32), (a ≤ b) → (tx (P ++ (L.drop a).take (b - a)) (q + (b - a)) g) → ∀ (H : Heap) (locs : List Loc), va_P (dC, dI) vwCl [(h0, .inr (3, [.ref hrw, .int (nI (q + (b - a)))])), (hrw, .inl (cR, 512, .inl (g))), (h1, .inr (1, [.ref hy, .int (nI k)])), (hy, .inl (cB, 256, .inl (f)))] H → va_D A [(h0, .inr (3, [.ref hrw, .int (nI (q + (b - a)))])), (hrw, .inl (cR, 512, .inl (g))), (h1, .inr (1, [.ref hy, .int (nI k)])), (hy, .inl (cB, 256, .inl (f)))] → va_S A s.heap H locs → ∀ ls : Array Slot, lv_has ls 5 [(4, .int (nI b)), (0, .ref h0), (1, .ref h1), (2, .int (nI a)), (3, .int (nI b))] → W p l e ({ frames := 2, cells := 0, slots := 0, locals := 45 } : Room) s m args below meth c H locs 0 0 Q (F0 m 40 ls [])) :
    ∀ (n j : Nat), j ≤ b → b < j + n → ∀ (g : Nat → Int32), (a ≤ j) → (tx (P ++ (L.drop a).take (j - a)) (q + (j - a)) g) → ∀ (H : Heap) (locs : List Loc), va_P (dC, dI) vwCl [(h0, .inr (3, [.ref hrw, .int (nI (q + (j - a)))])), (hrw, .inl (cR, 512, .inl (g))), (h1, .inr (1, [.ref hy, .int (nI k)])), (hy, .inl (cB, 256, .inl (f)))] H → va_D A [(h0, .inr (3, [.ref hrw, .int (nI (q + (j - a)))])), (hrw, .inl (cR, 512, .inl (g))), (h1, .inr (1, [.ref hy, .int (nI k)])), (hy, .inl (cB, 256, .inl (f)))] → va_S A s.heap H locs → ∀ ls : Array Slot, lv_has ls 5 [(4, .int (nI j)), (0, .ref h0), (1, .ref h1), (2, .int (nI a)), (3, .int (nI b))] → W p l e ({ frames := 2, cells := 0, slots := 0, locals := 45 } : Room) s m args below meth c H locs 0 0 Q (F0 m 18 ls []) := by
  intro n
  induction n with
  | zero => intro j h1 h2; exact absurd h2 (by omega)
  | succ n ih =>
    intro j hj hn g hf0 hf1 H locs hP hD hS ls hl
    refine lv_iload hx hb d_W_writeInsert_18 (lv_at hl 0 rfl) ?_
    refine lv_iload_n hx hb d_W_writeInsert_20 rfl (lv_at hl 4 rfl) ?_
    refine lv_icmp_ge (tgt := 40) hx hb d_W_writeInsert_21 (by decide) (fun c_1 => ?_) (fun c_1 => ?_)
    · obtain rfl : j = b := x_geN (by omega) hj c_1
      exact kk g hf0 hf1 _ _ hP hD hS ls (lv_sub hl [0, 1, 2, 3, 4] rfl)
    · have hlt : j < b := x_ltN (by omega) hj c_1
      refine lv_aload_n hx hb d_W_writeInsert_24 rfl (lv_at hl 1 rfl) ?_
      refine lv_aload_n hx hb d_W_writeInsert_25 rfl (lv_at hl 2 rfl) ?_
      refine lv_iload hx hb d_W_writeInsert_26 (lv_at hl 0 rfl) ?_
      have hPc := hP.sub (ws' := [(h1, .inr (1, [.ref hy, .int (nI k)])), (hy, .inl (cB, 256, .inl ((f))))]) [2, 3] rfl
      have hKc := hK.sub (tys' := [(cB, .byte)]) [1] rfl
      refine ps_i (va_runV (As := [.int (nI j)]) (rest := [.ref h0]) ⟨hx, hb, hml, hown, hw0⟩ (g_byteAt l dC dI h1 hy cB k (f) _ (nI j) (by first | assumption | decide | omega) (by first | assumption | decide | omega)) (cwV 1 hw0 (gd_V 127 128 129 69 130 rfl rfl rfl rfl rfl) rfl rfl rfl (by decide +kernel) ⟨by decide +kernel, by decide +kernel⟩) (prV_R hPc hKc hN (va_recv hKc hPc (ci := 1) (q0 := 0) rfl rfl)) rfl rfl hl.1 rfl (lv_room (Nat.le_of_ble_eq_true rfl)) d_W_writeInsert_28 ⟨by decide +kernel, by decide +kernel⟩) (fun r_2 hr_2 => ?_)
      obtain rfl : r_2 = (bAt L (nI j)) := hr_2
      have hPc := hP.sub (ws' := [(h0, .inr (3, [.ref hrw, .int (nI (q + (j - a)))])), (hrw, .inl (cR, 512, .inl ((g))))]) [0, 1] rfl
      have hKc := hK.sub (tys' := [(cR, .byte)]) [0] rfl
      have hDc := hD.sub (ws' := [(h0, .inr (3, [.ref hrw, .int (nI (q + (j - a)))])), (hrw, .inl (cR, 512, .inl ((g))))]) [0, 1] (by decide) rfl
      have hFc := va_free (wc := [(h0, .inr (3, [.ref hrw, .int (nI (q + (j - a)))])), (hrw, .inl (cR, 512, .inl ((g))))]) hD hS hA [0, 1] rfl
      refine va_callv (va_runV (As := [.int (bAt L (nI j))]) (rest := []) ⟨hx, hb, hml, hown, hw0⟩ (g_writeByte l dC dI H.size h0 hrw cR (q + (j - a)) (g) _ (bAt L (nI j)) (by first | assumption | decide | omega) (by first | assumption | decide | omega)) (cwV 1 hw0 (gd_V 123 124 125 94 126 rfl rfl rfl rfl rfl) rfl rfl rfl (by decide +kernel) ⟨by decide +kernel, by decide +kernel⟩) (prV_E hPc hKc hDc hN (va_recv hKc hPc (ci := 3) (q0 := 0) rfl rfl)) rfl rfl hl.1 rfl (lv_room (Nat.le_of_ble_eq_true rfl)) d_W_writeInsert_31 ⟨by decide +kernel, by decide +kernel⟩) hS (fun q _ h => hFc q h) hFc (fun u t H1 locs ht hvm hw hB hz1 hk1 hS => ?_)
      obtain ⟨g2_3, hu_4, hP1, hK1, hD1⟩ := hB
      rw [ht] at hP1
      have hK1 := va_K.moved hvm.symm hK1
      try dsimp only at hw
      obtain ⟨hP, hD⟩ := va_join (wr := [(h1, .inr (1, [.ref hy, .int (nI k)])), (hy, .inl (cB, 256, .inl (f)))]) (w1 := [(h0, .inr (3, [.ref hrw, .int (nI ((q + (j - a)) + 1))])), (hrw, .inl (cR, 512, .inl (g2_3)))]) hP hD [0, 1] [2, 3] rfl rfl (by decide) (by decide) hk1 hFc hP1 hD1
      generalize H1 = H at hP hS ⊢
      replace hP : va_P (dC, dI) vwCl [(h1, .inr (1, [.ref hy, .int (nI k)])), (hy, .inl (cB, 256, .inl (f))), (h0, .inr (3, [.ref hrw, .int (nI ((q + (j - a)) + 1))])), (hrw, .inl (cR, 512, .inl (g2_3)))] H := hP
      replace hD : va_D A [(h1, .inr (1, [.ref hy, .int (nI k)])), (hy, .inl (cB, 256, .inl (f))), (h0, .inr (3, [.ref hrw, .int (nI ((q + (j - a)) + 1))])), (hrw, .inl (cR, 512, .inl (g2_3)))] := hD
      replace hK : va_K (dC, dI) vwCl [(cR, .byte), (cB, .byte)] s := hK
      refine lv_iinc (v := nI (j + 1)) (lv' := [(4, .int (nI (j + 1))), (0, .ref h0), (1, .ref h1), (2, .int (nI a)), (3, .int (nI b))]) hx hb d_W_writeInsert_34 hl (k := 0) rfl (nI_1 j) (by decide) rfl (fun ls hl => ?_)
      refine lv_goto (tgt := 18) hx hb d_W_writeInsert_37 (by decide) ?_
      have eq9 : q + (j - a) + 1 = q + (j + 1 - a) := by omega
      rw [eq9] at hP hD hu_4
      exact ih (j + 1) hlt (by omega) g2_3 (by omega) (x_ins htx (by omega) hf0 (by omega) hu_4) _ _ (hP.sub (ws' := [(h0, .inr (3, [.ref hrw, .int (nI (q + ((j + 1) - a)))])), (hrw, .inl (cR, 512, .inl (g2_3))), (h1, .inr (1, [.ref hy, .int (nI k)])), (hy, .inl (cB, 256, .inl (f)))]) [2, 3, 0, 1] rfl) (hD.sub (ws' := [(h0, .inr (3, [.ref hrw, .int (nI (q + ((j + 1) - a)))])), (hrw, .inl (cR, 512, .inl (g2_3))), (h1, .inr (1, [.ref hy, .int (nI k)])), (hy, .inl (cB, 256, .inl (f)))]) [2, 3, 0, 1] (by decide) rfl) hS ls (lv_sub hl [0, 1, 2, 3, 4] rfl)
set_option maxHeartbeats 4000000 in
set_option maxRecDepth 100000 in
theorem g_writeInsert (l : Launch) (dC : Nat → ClassId) (dI : Nat → Nat → Nat) (sz : Nat) (h0 : Nat) (hrw : Nat) (cR : ClassId) (q : Nat) (g : Nat → Int32) (P : List Int32) (h1 : Nat) (hy : Nat) (cB : ClassId) (k : Nat) (f : Nat → Int32) (L : List Int32) (a : Nat) (b : Nat) (hp : tx P q g) (htx : tx L k f) (hk : k ≤ 256) (ha9 : a ≤ k) (hb9 : b ≤ k) (hq : a < b → q + dgt (2 * (b - a)) + (b - a) ≤ 512) : Met l y_W_writeInsert k_W_writeInsert ({ frames := 2, cells := 0, slots := 0, locals := 45 } : Room) (va_Pc [.ref h0, .ref h1, .int (nI a), .int (nI b)] (pc_E (dC, dI) [(h0, .inr (3, [.ref hrw, .int (nI q)])), (hrw, .inl (cR, 512, .inl (g))), (h1, .inr (1, [.ref hy, .int (nI k)])), (hy, .inl (cB, 256, .inl (f)))] [(cR, .byte), (cB, .byte)] sz)) (va_Qv (fun (_ : Unit) => True) (fun (_ : Unit) t => ∃ (q2 : Nat) (g2 : Nat → Int32), (q2 = q + (insE L a b).length ∧ tx (P ++ insE L a b) q2 g2) ∧ at_E (dC, dI) (va_A [(h0, .inr (3, [.ref hrw, .int (nI q)])), (hrw, .inl (cR, 512, .inl (g))), (h1, .inr (1, [.ref hy, .int (nI k)])), (hy, .inl (cB, 256, .inl (f)))] sz) [(h0, .inr (3, [.ref hrw, .int (nI q2)])), (hrw, .inl (cR, 512, .inl (g2))), (h1, .inr (1, [.ref hy, .int (nI k)])), (hy, .inl (cB, 256, .inl (f)))] [(cR, .byte), (cB, .byte)] t) (va_A [(h0, .inr (3, [.ref hrw, .int (nI q)])), (hrw, .inl (cR, 512, .inl (g))), (h1, .inr (1, [.ref hy, .int (nI k)])), (hy, .inl (cB, 256, .inl (f)))] sz)) 0 0 (va_A [(h0, .inr (3, [.ref hrw, .int (nI q)])), (hrw, .inl (cR, 512, .inl (g))), (h1, .inr (1, [.ref hy, .int (nI k)])), (hy, .inl (cB, 256, .inl (f)))] sz) := by
  refine Met.ofW (cc := prog_4_method_5_code) (maxL := 5) (ret := none) (by decide) rfl ?_
  intro p e s m args below meth c s₁ B hml hv
  obtain ⟨rfl, hsz, hP, hK, hD0, hN⟩ := hv
  have hx := B.exec
  have hb := B.bytes
  have hr := B.returns
  have hts := atoms_spec (ws := k_W_writeInsert) B.pre
  have hw0 : ∀ w ∈ w0, w.before _ s = true := fun w h => hts w (List.mem_cons_of_mem _ h)
  have hown : s.vm.findClass R_W = some m.cls := findClass_of_methodNamed B.named
  have hlocks := B.notSynchronized
  subst hsz
  have hD := hD0.self (sz := s.heap.size)
  generalize hAe : va_A [(h0, .inr (3, [.ref hrw, .int (nI q)])), (hrw, .inl (cR, 512, .inl (g))), (h1, .inr (1, [.ref hy, .int (nI k)])), (hy, .inl (cB, 256, .inl (f)))] s.heap.size = A at hD ⊢
  have hA : ∀ q : Nat, s.heap.size ≤ q → A q := fun q h => by rw [← hAe]; exact Or.inr h
  have hS : va_S A s.heap s.heap [] := va_S.rf
  have hP : va_P (dC, dI) vwCl [(h0, .inr (3, [.ref hrw, .int (nI q)])), (hrw, .inl (cR, 512, .inl (g))), (h1, .inr (1, [.ref hy, .int (nI k)])), (hy, .inl (cB, 256, .inl (f)))] s.heap := hP
  have hl := lv_entry ([.ref h0, .ref h1, .int (nI a), .int (nI b)]) (n := 5) (Nat.le_of_ble_eq_true rfl)
  rw [lg_entry_eq]
  generalize (lg_sl ([.ref h0, .ref h1, .int (nI a), .int (nI b)]) ++ List.replicate (5 - (lg_sl ([.ref h0, .ref h1, .int (nI a), .int (nI b)])).length) Slot.unset).toArray = ls at hl ⊢
  have hl : lv_has ls 5 [(0, .ref h0), (1, .ref h1), (2, .int (nI a)), (3, .int (nI b))] := hl
  refine lv_iload_n hx hb d_W_writeInsert_0 rfl (lv_at hl 2 rfl) ?_
  refine lv_iload_n hx hb d_W_writeInsert_1 rfl (lv_at hl 3 rfl) ?_
  refine lv_icmp_lt (tgt := 6) hx hb d_W_writeInsert_2 (by decide) (fun c_1 => ?_) (fun c_1 => ?_)
  · have hab : a < b := (nI_ltI (by omega) (by omega)).mp c_1; have hq8 := hq hab
    refine lv_aload_n hx hb d_W_writeInsert_6 rfl (lv_at hl 0 rfl) ?_
    refine lv_iconst (v := 2) hx hb d_W_writeInsert_7 (by decide) ?_
    refine lv_iload_n hx hb d_W_writeInsert_8 rfl (lv_at hl 3 rfl) ?_
    refine lv_iload_n hx hb d_W_writeInsert_9 rfl (lv_at hl 2 rfl) ?_
    refine lv_isub hx hb d_W_writeInsert_10 ?_
    refine lv_topi (fun x_2 ex_2 => ?_)
    obtain rfl : x_2 = (nI (b - a)) := by rw [ex_2]; exact pk_sub (by omega)
    clear ex_2
    refine lv_imul hx hb d_W_writeInsert_11 ?_
    refine lv_topi (fun x_3 ex_3 => ?_)
    obtain rfl : x_3 = (nI (2 * (b - a))) := by rw [ex_3]; exact (show nI 2 * nI (b - a) = nI (2 * (b - a)) from pk_mul 2 (b - a))
    clear ex_3
    have hPc := hP.sub (ws' := [(h0, .inr (3, [.ref hrw, .int (nI q)])), (hrw, .inl (cR, 512, .inl ((g))))]) [0, 1] rfl
    have hKc := hK.sub (tys' := [(cR, .byte)]) [0] rfl
    have hDc := hD.sub (ws' := [(h0, .inr (3, [.ref hrw, .int (nI q)])), (hrw, .inl (cR, 512, .inl ((g))))]) [0, 1] (by decide) rfl
    have hFc := va_free (wc := [(h0, .inr (3, [.ref hrw, .int (nI q)])), (hrw, .inl (cR, 512, .inl ((g))))]) hD hS hA [0, 1] rfl
    refine va_callv (va_runV (As := [.int (nI (2 * (b - a)))]) (rest := []) ⟨hx, hb, hml, hown, hw0⟩ (g_writeNumber l dC dI s.heap.size h0 hrw cR q (g) _ (2 * (b - a)) (by first | assumption | decide | omega) (by first | assumption | decide | omega) (by first | assumption | decide | omega)) (cwV 1 hw0 (gd_V 131 132 133 94 134 rfl rfl rfl rfl rfl) rfl rfl rfl (by decide +kernel) ⟨by decide +kernel, by decide +kernel⟩) (prV_E hPc hKc hDc hN (va_recv hKc hPc (ci := 3) (q0 := 0) rfl rfl)) rfl rfl hl.1 rfl (lv_room (Nat.le_of_ble_eq_true rfl)) d_W_writeInsert_12 ⟨by decide +kernel, by decide +kernel⟩) hS (fun q _ h => hFc q h) hFc (fun u t H1 locs ht hvm hw hB hz1 hk1 hS => ?_)
    obtain ⟨q2_4, g2_5, ⟨hu_6_0, hu_6_1⟩, hP1, hK1, hD1⟩ := hB
    rw [ht] at hP1
    have hK1 := va_K.moved hvm.symm hK1
    try dsimp only at hw
    obtain ⟨hP, hD⟩ := va_join (wr := [(h1, .inr (1, [.ref hy, .int (nI k)])), (hy, .inl (cB, 256, .inl (f)))]) (w1 := [(h0, .inr (3, [.ref hrw, .int (nI q2_4)])), (hrw, .inl (cR, 512, .inl (g2_5)))]) hP hD [0, 1] [2, 3] rfl rfl (by decide) (by decide) hk1 hFc hP1 hD1
    generalize H1 = H at hP hS ⊢
    replace hP : va_P (dC, dI) vwCl [(h1, .inr (1, [.ref hy, .int (nI k)])), (hy, .inl (cB, 256, .inl (f))), (h0, .inr (3, [.ref hrw, .int (nI q2_4)])), (hrw, .inl (cR, 512, .inl (g2_5)))] H := hP
    replace hD : va_D A [(h1, .inr (1, [.ref hy, .int (nI k)])), (hy, .inl (cB, 256, .inl (f))), (h0, .inr (3, [.ref hrw, .int (nI q2_4)])), (hrw, .inl (cR, 512, .inl (g2_5)))] := hD
    replace hK : va_K (dC, dI) vwCl [(cR, .byte), (cB, .byte)] s := hK
    refine lv_iload_n hx hb d_W_writeInsert_15 rfl (lv_at hl 2 rfl) ?_
    refine lv_istore (lv' := [(4, .int (nI a)), (0, .ref h0), (1, .ref h1), (2, .int (nI a)), (3, .int (nI b))]) hx hb d_W_writeInsert_16 hl (by decide) rfl (fun ls hl => ?_)
    have e0 : q2_4 + (a - a) = q2_4 := by omega
    have hu9 : tx ((P ++ encN (2 * (b - a))) ++ (L.drop a).take (a - a)) (q2_4 + (a - a)) g2_5 := by rw [e0, Nat.sub_self, List.take_zero, List.append_nil]; exact hu_6_1
    rw [← e0] at hP hD
    refine lq_ins h0 hrw cR q2_4 h1 hy cB k f L a b (P ++ encN (2 * (b - a))) htx hk hb9 (by have h8 := dgt_le (2 * (b - a)); omega) hx hb hml hown hw0 hN (hK.sub (tys' := [(cR, .byte), (cB, .byte)]) [0, 1] rfl) hA (fun g9 hg8 hg9 H locs hP hD hS ls hl => ?_) (b + 1) a (by omega) (by omega) g2_5 (Nat.le_refl a) hu9 _ _ (hP.sub (ws' := [(h0, .inr (3, [.ref hrw, .int (nI (q2_4 + (a - a)))])), (hrw, .inl (cR, 512, .inl (g2_5))), (h1, .inr (1, [.ref hy, .int (nI k)])), (hy, .inl (cB, 256, .inl (f)))]) [2, 3, 0, 1] rfl) (hD.sub (ws' := [(h0, .inr (3, [.ref hrw, .int (nI (q2_4 + (a - a)))])), (hrw, .inl (cR, 512, .inl (g2_5))), (h1, .inr (1, [.ref hy, .int (nI k)])), (hy, .inl (cB, 256, .inl (f)))]) [2, 3, 0, 1] (by decide) rfl) hS ls (lv_sub hl [0, 1, 2, 3, 4] rfl)
    replace hK := hK.sub (tys' := [(cR, .byte), (cB, .byte)]) [0, 1] rfl
    have hP9 := hP.sub (ws' := [(h0, .inr (3, [.ref hrw, .int (nI (q2_4 + (b - a)))])), (hrw, .inl (cR, 512, .inl (g9))), (h1, .inr (1, [.ref hy, .int (nI k)])), (hy, .inl (cB, 256, .inl (f)))]) [0, 1, 2, 3] rfl
    have hD9 := hD.sub (ws' := [(h0, .inr (3, [.ref hrw, .int (nI (q2_4 + (b - a)))])), (hrw, .inl (cR, 512, .inl (g9))), (h1, .inr (1, [.ref hy, .int (nI k)])), (hy, .inl (cB, 256, .inl (f)))]) [0, 1, 2, 3] (by decide) rfl
    have hK9 := hK.sub (tys' := [(cR, .byte), (cB, .byte)]) [0, 1] rfl
    exact W.vret hx hb hr (fun t ht hW => ⟨⟨(), rfl, trivial, (q2_4 + (b - a)), g9, (x_insT hab (by rw [htx.1]; exact hb9) hu_6_0 hg9), by rw [ht]; exact hP9, va_K.moved hW.alike hK9, hD9⟩, hS.F ht⟩) hS.2.2 d_W_writeInsert_40
  · have hP9 := hP.sub (ws' := [(h0, .inr (3, [.ref hrw, .int (nI q)])), (hrw, .inl (cR, 512, .inl (g))), (h1, .inr (1, [.ref hy, .int (nI k)])), (hy, .inl (cB, 256, .inl (f)))]) [0, 1, 2, 3] rfl
    have hD9 := hD.sub (ws' := [(h0, .inr (3, [.ref hrw, .int (nI q)])), (hrw, .inl (cR, 512, .inl (g))), (h1, .inr (1, [.ref hy, .int (nI k)])), (hy, .inl (cB, 256, .inl (f)))]) [0, 1, 2, 3] (by decide) rfl
    have hK9 := hK.sub (tys' := [(cR, .byte), (cB, .byte)]) [0, 1] rfl
    exact W.vret hx hb hr (fun t ht hW => ⟨⟨(), rfl, trivial, q, g, (x_insF c_1 (by omega) (by omega) hp), by rw [ht]; exact hP9, va_K.moved hW.alike hK9, hD9⟩, hS.F ht⟩) hS.2.2 d_W_writeInsert_5
set_option maxHeartbeats 4000000 in
set_option maxRecDepth 100000 in
theorem lq_best {p : Program} {l : Launch} {e : Env} {s : State} {m : MethodId} {args : Array Value} {below : List Frame} {meth : Method} {c : Code} {dC : Nat → ClassId} {dI : Nat → Nat → Nat} {Q : State → Prop} {H : Heap} {locs : List Loc} (h0 : Nat) (hy : Nat) (cB : ClassId) (k : Nat) (f : Nat → Int32) (L : List Int32) (h2 : Nat) (hy2 : Nat) (cB2 : ClassId) (k2 : Nat) (fo : Nat → Int32) (L2 : List Int32) (i : Nat) (htx : tx L k f) (htx2 : tx L2 k2 fo) (hk : k ≤ 256) (hk2 : k2 ≤ 256) (hi : i ≤ k)
    (hx : p.tables.exec = Jvm.exec) (hb : c.code = prog_4_method_4_code) (hml : c.maxLocals = 7) (hown : s.vm.findClass R_W = some m.cls) (hw0 : ∀ w ∈ w0, w.before args s = true) (hN : nw_ok s) (hK : va_K (dC, dI) vwCl [(cB, .byte), (cB2, .byte)] s) (hP : va_P (dC, dI) vwCl [(h0, .inr (1, [.ref hy, .int (nI k)])), (hy, .inl (cB, 256, .inl (f))), (h2, .inr (1, [.ref hy2, .int (nI k2)])), (hy2, .inl (cB2, 256, .inl (fo)))] H)
    (kk : ∀ ls : Array Slot, lv_has ls 7 [(5, .int (nI k2)), (3, .int (nI (bst L i L2 k2).1)), (4, .int (nI (bst L i L2 k2).2)), (0, .ref h0), (1, .int (nI i)), (2, .ref h2)] → W p l e ({ frames := 2, cells := 0, slots := 0, locals := 49 } : Room) s m args below meth c H locs 0 0 Q (F0 m 46 ls [])) :
    ∀ (n j : Nat), j ≤ k2 → k2 < j + n → ∀ ls : Array Slot, lv_has ls 7 [(5, .int (nI j)), (3, .int (nI (bst L i L2 j).1)), (4, .int (nI (bst L i L2 j).2)), (0, .ref h0), (1, .int (nI i)), (2, .ref h2)] → W p l e ({ frames := 2, cells := 0, slots := 0, locals := 49 } : Room) s m args below meth c H locs 0 0 Q (F0 m 8 ls []) := by
  intro n
  induction n with
  | zero => intro j  h1 h2; exact absurd h2 (by omega)
  | succ n ih =>
    intro j  hj hn  ls hl
    refine lv_iload hx hb d_W_placeOfLongest_8 (lv_at hl 0 rfl) ?_
    refine lv_aload_n hx hb d_W_placeOfLongest_10 rfl (lv_at hl 5 rfl) ?_
    refine va_getN (D := (dC, dI)) (ci := 1) (v := .int (nI k2)) (C := R_T) (T := F_T) (N := 2) hx hb hw0 in_T hown hK hP 2 rfl rfl 1 (by decide) (va_Nw.use rfl (hN.1 (.fieldLinkNest R_W 23 "TextKeeper$Text" "length" "I" "TextKeeper") (List.mem_of_getElem? (i := 0) rfl))) (fun _ h9 => h9) rfl d_W_placeOfLongest_11 ?_
    refine lv_icmp_ge (tgt := 46) hx hb d_W_placeOfLongest_14 (by decide) (fun c_1 => ?_) (fun c_1 => ?_)
    · obtain rfl : j = k2 := x_geN (by omega) hj c_1
      exact kk ls (lv_sub hl [0, 1, 2, 3, 4, 5] rfl)
    · have hlt : j < k2 := x_ltN (by omega) hj c_1
      refine lv_aload_n hx hb d_W_placeOfLongest_17 rfl (lv_at hl 3 rfl) ?_
      refine lv_iload_n hx hb d_W_placeOfLongest_18 rfl (lv_at hl 4 rfl) ?_
      refine lv_aload_n hx hb d_W_placeOfLongest_19 rfl (lv_at hl 5 rfl) ?_
      refine lv_iload hx hb d_W_placeOfLongest_20 (lv_at hl 0 rfl) ?_
      have hPc := hP.sub (ws' := [(h0, .inr (1, [.ref hy, .int (nI k)])), (hy, .inl (cB, 256, .inl ((f)))), (h2, .inr (1, [.ref hy2, .int (nI k2)])), (hy2, .inl (cB2, 256, .inl ((fo))))]) [0, 1, 2, 3] rfl
      have hKc := hK.sub (tys' := [(cB, .byte), (cB2, .byte)]) [0, 1] rfl
      refine ps_i (va_runV (As := [.int (nI i), .ref h2, .int (nI j)]) (rest := []) ⟨hx, hb, hml, hown, hw0⟩ (g_runWith l dC dI h0 hy cB k (f) _ h2 hy2 cB2 k2 (fo) _ i j (by first | assumption | decide | omega) (by first | assumption | decide | omega) (by first | assumption | decide | omega) (by first | assumption | decide | omega) (by first | assumption | decide | omega) (by first | assumption | decide | omega)) (cwV 3 hw0 (gd_V 135 136 137 69 138 rfl rfl rfl rfl rfl) rfl rfl rfl (by decide +kernel) ⟨by decide +kernel, by decide +kernel⟩) (prV_R hPc hKc hN (va_recv hKc hPc (ci := 1) (q0 := 0) rfl rfl)) rfl rfl hl.1 rfl (lv_room (Nat.le_of_ble_eq_true rfl)) d_W_placeOfLongest_22 ⟨by decide +kernel, by decide +kernel⟩) (fun r_2 hr_2 => ?_)
      obtain rfl : r_2 = (nI (cpl (L.drop i) (L2.drop j))) := hr_2
      refine lv_istore (lv' := [(6, .int (nI (cpl (L.drop i) (L2.drop j)))), (5, .int (nI j)), (3, .int (nI (bst L i L2 j).1)), (4, .int (nI (bst L i L2 j).2)), (0, .ref h0), (1, .int (nI i)), (2, .ref h2)]) hx hb d_W_placeOfLongest_25 hl (by decide) rfl (fun ls hl => ?_)
      refine lv_iload hx hb d_W_placeOfLongest_27 (lv_at hl 0 rfl) ?_
      refine lv_iload_n hx hb d_W_placeOfLongest_29 rfl (lv_at hl 2 rfl) ?_
      refine lv_icmp_le (tgt := 40) hx hb d_W_placeOfLongest_30 (by decide) (fun c_3 => ?_) (fun c_3 => ?_)
      · refine lv_iinc (v := nI (j + 1)) (lv' := [(5, .int (nI (j + 1))), (6, .int (nI (cpl (L.drop i) (L2.drop j)))), (3, .int (nI (bst L i L2 j).1)), (4, .int (nI (bst L i L2 j).2)), (0, .ref h0), (1, .int (nI i)), (2, .ref h2)]) hx hb d_W_placeOfLongest_40 hl (k := 1) rfl (nI_1 j) (by decide) rfl (fun ls hl => ?_)
        refine lv_goto (tgt := 8) hx hb d_W_placeOfLongest_43 (by decide) ?_
        exact ih (j + 1) hlt (by omega) ls (by rw [bst_le ((nI_leI (by have := cpl_le1 (L.drop i) (L2.drop j); rw [List.length_drop, htx.1] at this; omega) (by have := bst_le1 L i L2 j; rw [htx.1] at this; omega)).mp c_3)]; exact (lv_sub hl [0, 2, 3, 4, 5, 6] rfl))
      · refine lv_iload hx hb d_W_placeOfLongest_33 (lv_at hl 0 rfl) ?_
        refine lv_istore_n (lv' := [(3, .int (nI (cpl (L.drop i) (L2.drop j)))), (6, .int (nI (cpl (L.drop i) (L2.drop j)))), (5, .int (nI j)), (4, .int (nI (bst L i L2 j).2)), (0, .ref h0), (1, .int (nI i)), (2, .ref h2)]) hx hb d_W_placeOfLongest_35 rfl hl (by decide) rfl (fun ls hl => ?_)
        refine lv_iload hx hb d_W_placeOfLongest_36 (lv_at hl 2 rfl) ?_
        refine lv_istore (lv' := [(4, .int (nI j)), (3, .int (nI (cpl (L.drop i) (L2.drop j)))), (6, .int (nI (cpl (L.drop i) (L2.drop j)))), (5, .int (nI j)), (0, .ref h0), (1, .int (nI i)), (2, .ref h2)]) hx hb d_W_placeOfLongest_38 hl (by decide) rfl (fun ls hl => ?_)
        refine lv_iinc (v := nI (j + 1)) (lv' := [(5, .int (nI (j + 1))), (4, .int (nI j)), (3, .int (nI (cpl (L.drop i) (L2.drop j)))), (6, .int (nI (cpl (L.drop i) (L2.drop j)))), (0, .ref h0), (1, .int (nI i)), (2, .ref h2)]) hx hb d_W_placeOfLongest_40 hl (k := 3) rfl (nI_1 j) (by decide) rfl (fun ls hl => ?_)
        refine lv_goto (tgt := 8) hx hb d_W_placeOfLongest_43 (by decide) ?_
        exact ih (j + 1) hlt (by omega) ls (by rw [bst_gt (mt (nI_leI (by have := cpl_le1 (L.drop i) (L2.drop j); rw [List.length_drop, htx.1] at this; omega) (by have := bst_le1 L i L2 j; rw [htx.1] at this; omega)).mpr c_3)]; exact (lv_sub hl [0, 2, 1, 4, 5, 6] rfl))
set_option maxHeartbeats 4000000 in
set_option maxRecDepth 100000 in
theorem g_placeOfLongest (l : Launch) (dC : Nat → ClassId) (dI : Nat → Nat → Nat) (h0 : Nat) (hy : Nat) (cB : ClassId) (k : Nat) (f : Nat → Int32) (L : List Int32) (h2 : Nat) (hy2 : Nat) (cB2 : ClassId) (k2 : Nat) (fo : Nat → Int32) (L2 : List Int32) (i : Nat) (htx : tx L k f) (htx2 : tx L2 k2 fo) (hk : k ≤ 256) (hk2 : k2 ≤ 256) (hi : i ≤ k) : Met l y_W_placeOfLongest k_W_placeOfLongest ({ frames := 2, cells := 0, slots := 0, locals := 49 } : Room) (va_Pc [.ref h0, .int (nI i), .ref h2] (pc_R (dC, dI) [(h0, .inr (1, [.ref hy, .int (nI k)])), (hy, .inl (cB, 256, .inl (f))), (h2, .inr (1, [.ref hy2, .int (nI k2)])), (hy2, .inl (cB2, 256, .inl (fo)))] [(cB, .byte), (cB2, .byte)])) (vp_Si (fun r => r = nI (bst L i L2 k2).2)) 0 0 (fun _ => False) := by
  refine Met.ofW (cc := prog_4_method_4_code) (maxL := 7) (ret := (some .int)) (by decide) rfl ?_
  intro p e s m args below meth c s₁ B hml hv
  obtain ⟨rfl, hP, hK, hN⟩ := hv
  have hx := B.exec
  have hb := B.bytes
  have hr := B.returns
  have hts := atoms_spec (ws := k_W_placeOfLongest) B.pre
  have hw0 : ∀ w ∈ w0, w.before _ s = true := fun w h => hts w (List.mem_cons_of_mem _ h)
  have hown : s.vm.findClass R_W = some m.cls := findClass_of_methodNamed B.named
  have hlocks := B.notSynchronized
  have hP : va_P (dC, dI) vwCl [(h0, .inr (1, [.ref hy, .int (nI k)])), (hy, .inl (cB, 256, .inl (f))), (h2, .inr (1, [.ref hy2, .int (nI k2)])), (hy2, .inl (cB2, 256, .inl (fo)))] s.heap := hP
  have hl := lv_entry ([.ref h0, .int (nI i), .ref h2]) (n := 7) (Nat.le_of_ble_eq_true rfl)
  rw [lg_entry_eq]
  generalize (lg_sl ([.ref h0, .int (nI i), .ref h2]) ++ List.replicate (7 - (lg_sl ([.ref h0, .int (nI i), .ref h2])).length) Slot.unset).toArray = ls at hl ⊢
  have hl : lv_has ls 7 [(0, .ref h0), (1, .int (nI i)), (2, .ref h2)] := hl
  refine lv_iconst (v := 0) hx hb d_W_placeOfLongest_0 (by decide) ?_
  refine lv_istore_n (lv' := [(3, .int 0), (0, .ref h0), (1, .int (nI i)), (2, .ref h2)]) hx hb d_W_placeOfLongest_1 rfl hl (by decide) rfl (fun ls hl => ?_)
  refine lv_iconst (v := 0) hx hb d_W_placeOfLongest_2 (by decide) ?_
  refine lv_istore (lv' := [(4, .int 0), (3, .int 0), (0, .ref h0), (1, .int (nI i)), (2, .ref h2)]) hx hb d_W_placeOfLongest_3 hl (by decide) rfl (fun ls hl => ?_)
  refine lv_iconst (v := 0) hx hb d_W_placeOfLongest_5 (by decide) ?_
  refine lv_istore (lv' := [(5, .int 0), (4, .int 0), (3, .int 0), (0, .ref h0), (1, .int (nI i)), (2, .ref h2)]) hx hb d_W_placeOfLongest_6 hl (by decide) rfl (fun ls hl => ?_)
  refine lq_best h0 hy cB k f L h2 hy2 cB2 k2 fo L2 i htx htx2 hk hk2 hi hx hb hml hown hw0 hN hK hP (fun ls hl => ?_) (k2 + 1) 0 (by omega) (by omega) ls (lv_sub hl [0, 2, 1, 3, 4, 5] rfl)
  refine lv_iload hx hb d_W_placeOfLongest_46 (lv_at hl 2 rfl) ?_
  exact W.iret (v := (nI (bst L i L2 k2).2)) hx hb hr (fun t ht hW => ⟨(nI (bst L i L2 k2).2), rfl, rfl, ht⟩) (fun q h => by cases h) d_W_placeOfLongest_48
set_option maxHeartbeats 4000000 in
set_option maxRecDepth 100000 in
theorem lq_dif {p : Program} {l : Launch} {e : Env} {s : State} {m : MethodId} {args : Array Value} {below : List Frame} {meth : Method} {c : Code} {dC : Nat → ClassId} {dI : Nat → Nat → Nat} {A : Nat → Prop} {Q : State → Prop} (h0 : Nat) (hrw : Nat) (cR : ClassId) (h1 : Nat) (hy : Nat) (cB : ClassId) (k : Nat) (f : Nat → Int32) (L : List Int32) (h2 : Nat) (hy2 : Nat) (cB2 : ClassId) (k2 : Nat) (fo : Nat → Int32) (L2 : List Int32) (D : List Int32) (htx : tx L k f) (htx2 : tx L2 k2 fo) (hk : k ≤ 256) (hk2 : k2 ≤ 256)
    (hx : p.tables.exec = Jvm.exec) (hb : c.code = prog_4_method_3_code) (hml : c.maxLocals = 7) (hown : s.vm.findClass R_W = some m.cls) (hw0 : ∀ w ∈ w0, w.before args s = true) (hN : nw_ok s) (hK : va_K (dC, dI) vwCl [(cR, .byte), (cB, .byte), (cB2, .byte)] s) (hA : ∀ q : Nat, s.heap.size ≤ q → A q)
    (kk : ∀ (nw : Nat) (q : Nat) (g : Nat → Int32) (P : List Int32) (F : Nat), (nw ≤ k) → (tx P q g) → (q ≤ 2 * nw) → (k ≤ k + F) → (P ++ dif L L2 F k nw = D) → ∀ (H : Heap) (locs : List Loc), va_P (dC, dI) vwCl [(h0, .inr (3, [.ref hrw, .int (nI q)])), (hrw, .inl (cR, 512, .inl (g))), (h1, .inr (1, [.ref hy, .int (nI k)])), (hy, .inl (cB, 256, .inl (f))), (h2, .inr (1, [.ref hy2, .int (nI k2)])), (hy2, .inl (cB2, 256, .inl (fo)))] H → va_D A [(h0, .inr (3, [.ref hrw, .int (nI q)])), (hrw, .inl (cR, 512, .inl (g))), (h1, .inr (1, [.ref hy, .int (nI k)])), (hy, .inl (cB, 256, .inl (f))), (h2, .inr (1, [.ref hy2, .int (nI k2)])), (hy2, .inl (cB2, 256, .inl (fo)))] → va_S A s.heap H locs → ∀ ls : Array Slot, lv_has ls 7 [(4, .int (nI k)), (3, .int (nI nw)), (0, .ref h0), (1, .ref h1), (2, .ref h2)] → W p l e ({ frames := 3, cells := 0, slots := 0, locals := 75 } : Room) s m args below meth c H locs 0 0 Q (F0 m 88 ls [])) :
    ∀ (n j : Nat), j ≤ k → k < j + n → ∀ (nw : Nat) (q : Nat) (g : Nat → Int32) (P : List Int32) (F : Nat), (nw ≤ j) → (tx P q g) → (q ≤ 2 * nw) → (k ≤ j + F) → (P ++ dif L L2 F j nw = D) → ∀ (H : Heap) (locs : List Loc), va_P (dC, dI) vwCl [(h0, .inr (3, [.ref hrw, .int (nI q)])), (hrw, .inl (cR, 512, .inl (g))), (h1, .inr (1, [.ref hy, .int (nI k)])), (hy, .inl (cB, 256, .inl (f))), (h2, .inr (1, [.ref hy2, .int (nI k2)])), (hy2, .inl (cB2, 256, .inl (fo)))] H → va_D A [(h0, .inr (3, [.ref hrw, .int (nI q)])), (hrw, .inl (cR, 512, .inl (g))), (h1, .inr (1, [.ref hy, .int (nI k)])), (hy, .inl (cB, 256, .inl (f))), (h2, .inr (1, [.ref hy2, .int (nI k2)])), (hy2, .inl (cB2, 256, .inl (fo)))] → va_S A s.heap H locs → ∀ ls : Array Slot, lv_has ls 7 [(4, .int (nI j)), (3, .int (nI nw)), (0, .ref h0), (1, .ref h1), (2, .ref h2)] → W p l e ({ frames := 3, cells := 0, slots := 0, locals := 75 } : Room) s m args below meth c H locs 0 0 Q (F0 m 10 ls []) := by
  intro n
  induction n with
  | zero => intro j h1 h2; exact absurd h2 (by omega)
  | succ n ih =>
    intro j hj hn nw q g P F hf0 hf1 hf2 hf3 hf4 H locs hP hD hS ls hl
    refine lv_iload hx hb d_W_writeDifferences_10 (lv_at hl 0 rfl) ?_
    refine lv_aload_n hx hb d_W_writeDifferences_12 rfl (lv_at hl 3 rfl) ?_
    refine va_getN (D := (dC, dI)) (ci := 1) (v := .int (nI k)) (C := R_T) (T := F_T) (N := 2) hx hb hw0 in_T hown hK hP 2 rfl rfl 1 (by decide) (va_Nw.use rfl (hN.1 (.fieldLinkNest R_W 23 "TextKeeper$Text" "length" "I" "TextKeeper") (List.mem_of_getElem? (i := 0) rfl))) (fun _ h9 => h9) rfl d_W_writeDifferences_13 ?_
    refine lv_icmp_ge (tgt := 88) hx hb d_W_writeDifferences_16 (by decide) (fun c_1 => ?_) (fun c_1 => ?_)
    · obtain rfl : j = k := x_geN (by omega) hj c_1
      exact kk nw q g P F hf0 hf1 hf2 hf3 hf4 _ _ hP hD hS ls (lv_sub hl [0, 1, 2, 3, 4] rfl)
    · have hlt : j < k := x_ltN (by omega) hj c_1; obtain ⟨F1, rfl⟩ : ∃ z, F = z + 1 := ⟨F - 1, by omega⟩; have hbl := (bst_lt L j L2 k2).1; have hcl : (cpl (L.drop j) (L2.drop (bst L j L2 k2).2)) ≤ k - j := (by have h8 := cpl_le1 (L.drop j) (L2.drop (bst L j L2 k2).2); rw [List.length_drop, htx.1] at h8; exact h8)
      refine lv_aload_n hx hb d_W_writeDifferences_19 rfl (lv_at hl 3 rfl) ?_
      refine lv_iload hx hb d_W_writeDifferences_20 (lv_at hl 0 rfl) ?_
      refine lv_aload_n hx hb d_W_writeDifferences_22 rfl (lv_at hl 4 rfl) ?_
      have hPc := hP.sub (ws' := [(h1, .inr (1, [.ref hy, .int (nI k)])), (hy, .inl (cB, 256, .inl ((f)))), (h2, .inr (1, [.ref hy2, .int (nI k2)])), (hy2, .inl (cB2, 256, .inl ((fo))))]) [2, 3, 4, 5] rfl
      have hKc := hK.sub (tys' := [(cB, .byte), (cB2, .byte)]) [1, 2] rfl
      refine ps_i (va_runS (As := [.ref h1, .int (nI j), .ref h2]) (rest := []) ⟨hx, hb, hml, hown, hw0⟩ (g_placeOfLongest l dC dI h1 hy cB k (f) _ h2 hy2 cB2 k2 (fo) _ j (by first | assumption | decide | omega) (by first | assumption | decide | omega) (by first | assumption | decide | omega) (by first | assumption | decide | omega) (by first | assumption | decide | omega)) (va_cwS 3 hw0 (gd_S 139 140 94 141 rfl rfl rfl rfl) rfl rfl rfl (by decide +kernel) ⟨by decide +kernel, by decide +kernel⟩) (prS_R hPc hKc hN) rfl rfl hl.1 rfl (lv_room (Nat.le_of_ble_eq_true rfl)) d_W_writeDifferences_23 ⟨by decide +kernel, by decide +kernel⟩) (fun r_2 hr_2 => ?_)
      obtain rfl : r_2 = (nI (bst L j L2 k2).2) := hr_2
      refine lv_istore (lv' := [(5, .int (nI (bst L j L2 k2).2)), (4, .int (nI j)), (3, .int (nI nw)), (0, .ref h0), (1, .ref h1), (2, .ref h2)]) hx hb d_W_writeDifferences_26 hl (by decide) rfl (fun ls hl => ?_)
      refine lv_aload_n hx hb d_W_writeDifferences_28 rfl (lv_at hl 4 rfl) ?_
      refine lv_iload hx hb d_W_writeDifferences_29 (lv_at hl 1 rfl) ?_
      refine lv_aload_n hx hb d_W_writeDifferences_31 rfl (lv_at hl 5 rfl) ?_
      refine lv_iload hx hb d_W_writeDifferences_32 (lv_at hl 0 rfl) ?_
      have hPc := hP.sub (ws' := [(h1, .inr (1, [.ref hy, .int (nI k)])), (hy, .inl (cB, 256, .inl ((f)))), (h2, .inr (1, [.ref hy2, .int (nI k2)])), (hy2, .inl (cB2, 256, .inl ((fo))))]) [2, 3, 4, 5] rfl
      have hKc := hK.sub (tys' := [(cB, .byte), (cB2, .byte)]) [1, 2] rfl
      refine ps_i (va_runV (As := [.int (nI j), .ref h2, .int (nI (bst L j L2 k2).2)]) (rest := []) ⟨hx, hb, hml, hown, hw0⟩ (g_runWith l dC dI h1 hy cB k (f) _ h2 hy2 cB2 k2 (fo) _ j ((bst L j L2 k2).2) (by first | assumption | decide | omega) (by first | assumption | decide | omega) (by first | assumption | decide | omega) (by first | assumption | decide | omega) (by first | assumption | decide | omega) (by first | assumption | decide | omega)) (cwV 3 hw0 (gd_V 135 136 137 69 138 rfl rfl rfl rfl rfl) rfl rfl rfl (by decide +kernel) ⟨by decide +kernel, by decide +kernel⟩) (prV_R hPc hKc hN (va_recv hKc hPc (ci := 1) (q0 := 0) rfl rfl)) rfl rfl hl.1 rfl (lv_room (Nat.le_of_ble_eq_true rfl)) d_W_writeDifferences_34 ⟨by decide +kernel, by decide +kernel⟩) (fun r_3 hr_3 => ?_)
      obtain rfl : r_3 = (nI (cpl (L.drop j) (L2.drop (bst L j L2 k2).2))) := hr_3
      refine lv_istore (lv' := [(6, .int (nI (cpl (L.drop j) (L2.drop (bst L j L2 k2).2)))), (5, .int (nI (bst L j L2 k2).2)), (4, .int (nI j)), (3, .int (nI nw)), (0, .ref h0), (1, .ref h1), (2, .ref h2)]) hx hb d_W_writeDifferences_37 hl (by decide) rfl (fun ls hl => ?_)
      refine lv_iload hx hb d_W_writeDifferences_39 (lv_at hl 0 rfl) ?_
      refine lv_iconst (v := 4) hx hb d_W_writeDifferences_41 (by decide) ?_
      refine lv_icmp_lt (tgt := 82) hx hb d_W_writeDifferences_42 (by decide) (fun c_4 => ?_) (fun c_4 => ?_)
      · have hs9 : ¬ 4 ≤ (cpl (L.drop j) (L2.drop (bst L j L2 k2).2)) := fun z => absurd (nI_le z (by omega)) (Int32.not_le.mpr c_4)
        refine lv_iinc (v := nI (j + 1)) (lv' := [(4, .int (nI (j + 1))), (6, .int (nI (cpl (L.drop j) (L2.drop (bst L j L2 k2).2)))), (5, .int (nI (bst L j L2 k2).2)), (3, .int (nI nw)), (0, .ref h0), (1, .ref h1), (2, .ref h2)]) hx hb d_W_writeDifferences_82 hl (k := 2) rfl (nI_1 j) (by decide) rfl (fun ls hl => ?_)
        refine lv_goto (tgt := 10) hx hb d_W_writeDifferences_85 (by decide) ?_
        exact ih (j + 1) hlt (by omega) nw q g P F1 (by omega) hf1 hf2 (by omega) (by rw [← hf4, dif_skip htx2.1 (by rw [htx.1]; exact hlt) (fun z => hs9 z)]) _ _ (hP.sub (ws' := [(h0, .inr (3, [.ref hrw, .int (nI q)])), (hrw, .inl (cR, 512, .inl (g))), (h1, .inr (1, [.ref hy, .int (nI k)])), (hy, .inl (cB, 256, .inl (f))), (h2, .inr (1, [.ref hy2, .int (nI k2)])), (hy2, .inl (cB2, 256, .inl (fo)))]) [0, 1, 2, 3, 4, 5] rfl) (hD.sub (ws' := [(h0, .inr (3, [.ref hrw, .int (nI q)])), (hrw, .inl (cR, 512, .inl (g))), (h1, .inr (1, [.ref hy, .int (nI k)])), (hy, .inl (cB, 256, .inl (f))), (h2, .inr (1, [.ref hy2, .int (nI k2)])), (hy2, .inl (cB2, 256, .inl (fo)))]) [0, 1, 2, 3, 4, 5] (by decide) rfl) hS ls (lv_sub hl [0, 3, 4, 5, 6] rfl)
      · have h4 : 4 ≤ (cpl (L.drop j) (L2.drop (bst L j L2 k2).2)) ∧ (cpl (L.drop j) (L2.drop (bst L j L2 k2).2)) ≤ k - j := ⟨(by rcases Nat.lt_or_ge (cpl (L.drop j) (L2.drop (bst L j L2 k2).2)) 4 with z | z; exact absurd (nI_lt z (by decide)) c_4; exact z), hcl⟩; have hil := insE_len (L := L) (a := nw) (b := j) hf0 (by rw [htx.1]; omega); have hd1 := dgt_le (2 * (cpl (L.drop j) (L2.drop (bst L j L2 k2).2)) + 1); have hd2 := dgt_le (bst L j L2 k2).2; have hdi := dgt_ins (j - nw)
        refine lv_aload_n hx hb d_W_writeDifferences_45 rfl (lv_at hl 4 rfl) ?_
        refine lv_aload_n hx hb d_W_writeDifferences_46 rfl (lv_at hl 5 rfl) ?_
        refine lv_iload_n hx hb d_W_writeDifferences_47 rfl (lv_at hl 3 rfl) ?_
        refine lv_iload hx hb d_W_writeDifferences_48 (lv_at hl 2 rfl) ?_
        have hPc := hP.sub (ws' := [(h0, .inr (3, [.ref hrw, .int (nI q)])), (hrw, .inl (cR, 512, .inl ((g)))), (h1, .inr (1, [.ref hy, .int (nI k)])), (hy, .inl (cB, 256, .inl ((f))))]) [0, 1, 2, 3] rfl
        have hKc := hK.sub (tys' := [(cR, .byte), (cB, .byte)]) [0, 1] rfl
        have hDc := hD.sub (ws' := [(h0, .inr (3, [.ref hrw, .int (nI q)])), (hrw, .inl (cR, 512, .inl ((g)))), (h1, .inr (1, [.ref hy, .int (nI k)])), (hy, .inl (cB, 256, .inl ((f))))]) [0, 1, 2, 3] (by decide) rfl
        have hFc := va_free (wc := [(h0, .inr (3, [.ref hrw, .int (nI q)])), (hrw, .inl (cR, 512, .inl ((g)))), (h1, .inr (1, [.ref hy, .int (nI k)])), (hy, .inl (cB, 256, .inl ((f))))]) hD hS hA [0, 1, 2, 3] rfl
        refine va_callv (va_runV (As := [.ref h1, .int (nI nw), .int (nI j)]) (rest := []) ⟨hx, hb, hml, hown, hw0⟩ (g_writeInsert l dC dI H.size h0 hrw cR q (g) _ h1 hy cB k (f) _ nw j (by first | assumption | decide | omega) (by first | assumption | decide | omega) (by first | assumption | decide | omega) (by first | assumption | decide | omega) (by first | assumption | decide | omega) (by first | assumption | decide | omega)) (cwV 3 hw0 (gd_V 142 143 144 94 145 rfl rfl rfl rfl rfl) rfl rfl rfl (by decide +kernel) ⟨by decide +kernel, by decide +kernel⟩) (prV_E hPc hKc hDc hN (va_recv hKc hPc (ci := 3) (q0 := 0) rfl rfl)) rfl rfl hl.1 rfl (lv_room (Nat.le_of_ble_eq_true rfl)) d_W_writeDifferences_50 ⟨by decide +kernel, by decide +kernel⟩) hS (fun q _ h => hFc q h) hFc (fun u t H1 locs ht hvm hw hB hz1 hk1 hS => ?_)
        obtain ⟨q2_5, g2_6, ⟨hu_7_0, hu_7_1⟩, hP1, hK1, hD1⟩ := hB
        rw [ht] at hP1
        have hK1 := va_K.moved hvm.symm hK1
        try dsimp only at hw
        obtain ⟨hP, hD⟩ := va_join (wr := [(h2, .inr (1, [.ref hy2, .int (nI k2)])), (hy2, .inl (cB2, 256, .inl (fo)))]) (w1 := [(h0, .inr (3, [.ref hrw, .int (nI q2_5)])), (hrw, .inl (cR, 512, .inl (g2_6))), (h1, .inr (1, [.ref hy, .int (nI k)])), (hy, .inl (cB, 256, .inl ((f))))]) hP hD [0, 1, 2, 3] [4, 5] rfl rfl (by decide) (by decide) hk1 hFc hP1 hD1
        generalize H1 = H at hP hS ⊢
        replace hP : va_P (dC, dI) vwCl [(h2, .inr (1, [.ref hy2, .int (nI k2)])), (hy2, .inl (cB2, 256, .inl (fo))), (h0, .inr (3, [.ref hrw, .int (nI q2_5)])), (hrw, .inl (cR, 512, .inl (g2_6))), (h1, .inr (1, [.ref hy, .int (nI k)])), (hy, .inl (cB, 256, .inl ((f))))] H := hP
        replace hD : va_D A [(h2, .inr (1, [.ref hy2, .int (nI k2)])), (hy2, .inl (cB2, 256, .inl (fo))), (h0, .inr (3, [.ref hrw, .int (nI q2_5)])), (hrw, .inl (cR, 512, .inl (g2_6))), (h1, .inr (1, [.ref hy, .int (nI k)])), (hy, .inl (cB, 256, .inl ((f))))] := hD
        replace hK : va_K (dC, dI) vwCl [(cR, .byte), (cB, .byte), (cB2, .byte)] s := hK
        refine lv_aload_n hx hb d_W_writeDifferences_53 rfl (lv_at hl 4 rfl) ?_
        refine lv_iconst (v := 2) hx hb d_W_writeDifferences_54 (by decide) ?_
        refine lv_iload hx hb d_W_writeDifferences_55 (lv_at hl 0 rfl) ?_
        refine lv_imul hx hb d_W_writeDifferences_57 ?_
        refine lv_topi (fun x_8 ex_8 => ?_)
        obtain rfl : x_8 = (nI (2 * (cpl (L.drop j) (L2.drop (bst L j L2 k2).2)))) := by rw [ex_8]; exact (show nI 2 * nI _ = nI (2 * _) from pk_mul 2 _)
        clear ex_8
        refine lv_iconst (v := 1) hx hb d_W_writeDifferences_58 (by decide) ?_
        refine lv_iadd hx hb d_W_writeDifferences_59 ?_
        refine lv_topi (fun x_9 ex_9 => ?_)
        obtain rfl : x_9 = (nI (2 * (cpl (L.drop j) (L2.drop (bst L j L2 k2).2)) + 1)) := by rw [ex_9]; exact nI_1 _
        clear ex_9
        have hPc := hP.sub (ws' := [(h0, .inr (3, [.ref hrw, .int (nI q2_5)])), (hrw, .inl (cR, 512, .inl ((g2_6))))]) [2, 3] rfl
        have hKc := hK.sub (tys' := [(cR, .byte)]) [0] rfl
        have hDc := hD.sub (ws' := [(h0, .inr (3, [.ref hrw, .int (nI q2_5)])), (hrw, .inl (cR, 512, .inl ((g2_6))))]) [2, 3] (by decide) rfl
        have hFc := va_free (wc := [(h0, .inr (3, [.ref hrw, .int (nI q2_5)])), (hrw, .inl (cR, 512, .inl ((g2_6))))]) hD hS hA [2, 3] rfl
        refine va_callv (va_runV (As := [.int (nI (2 * (cpl (L.drop j) (L2.drop (bst L j L2 k2).2)) + 1))]) (rest := []) ⟨hx, hb, hml, hown, hw0⟩ (g_writeNumber l dC dI H.size h0 hrw cR q2_5 (g2_6) _ (2 * (cpl (L.drop j) (L2.drop (bst L j L2 k2).2)) + 1) (by first | assumption | decide | omega) (by first | assumption | decide | omega) (by first | assumption | decide | omega)) (cwV 1 hw0 (gd_V 131 132 133 94 134 rfl rfl rfl rfl rfl) rfl rfl rfl (by decide +kernel) ⟨by decide +kernel, by decide +kernel⟩) (prV_E hPc hKc hDc hN (va_recv hKc hPc (ci := 3) (q0 := 0) rfl rfl)) rfl rfl hl.1 rfl (lv_room (Nat.le_of_ble_eq_true rfl)) d_W_writeDifferences_60 ⟨by decide +kernel, by decide +kernel⟩) hS (fun q _ h => hFc q h) hFc (fun u t H1 locs ht hvm hw hB hz1 hk1 hS => ?_)
        obtain ⟨q2_10, g2_11, ⟨hu_12_0, hu_12_1⟩, hP1, hK1, hD1⟩ := hB
        rw [ht] at hP1
        have hK1 := va_K.moved hvm.symm hK1
        try dsimp only at hw
        obtain ⟨hP, hD⟩ := va_join (wr := [(h2, .inr (1, [.ref hy2, .int (nI k2)])), (hy2, .inl (cB2, 256, .inl (fo))), (h1, .inr (1, [.ref hy, .int (nI k)])), (hy, .inl (cB, 256, .inl ((f))))]) (w1 := [(h0, .inr (3, [.ref hrw, .int (nI q2_10)])), (hrw, .inl (cR, 512, .inl (g2_11)))]) hP hD [2, 3] [0, 1, 4, 5] rfl rfl (by decide) (by decide) hk1 hFc hP1 hD1
        generalize H1 = H at hP hS ⊢
        replace hP : va_P (dC, dI) vwCl [(h2, .inr (1, [.ref hy2, .int (nI k2)])), (hy2, .inl (cB2, 256, .inl (fo))), (h1, .inr (1, [.ref hy, .int (nI k)])), (hy, .inl (cB, 256, .inl ((f)))), (h0, .inr (3, [.ref hrw, .int (nI q2_10)])), (hrw, .inl (cR, 512, .inl (g2_11)))] H := hP
        replace hD : va_D A [(h2, .inr (1, [.ref hy2, .int (nI k2)])), (hy2, .inl (cB2, 256, .inl (fo))), (h1, .inr (1, [.ref hy, .int (nI k)])), (hy, .inl (cB, 256, .inl ((f)))), (h0, .inr (3, [.ref hrw, .int (nI q2_10)])), (hrw, .inl (cR, 512, .inl (g2_11)))] := hD
        replace hK : va_K (dC, dI) vwCl [(cR, .byte), (cB, .byte), (cB2, .byte)] s := hK
        refine lv_aload_n hx hb d_W_writeDifferences_63 rfl (lv_at hl 4 rfl) ?_
        refine lv_iload hx hb d_W_writeDifferences_64 (lv_at hl 1 rfl) ?_
        have hPc := hP.sub (ws' := [(h0, .inr (3, [.ref hrw, .int (nI q2_10)])), (hrw, .inl (cR, 512, .inl ((g2_11))))]) [4, 5] rfl
        have hKc := hK.sub (tys' := [(cR, .byte)]) [0] rfl
        have hDc := hD.sub (ws' := [(h0, .inr (3, [.ref hrw, .int (nI q2_10)])), (hrw, .inl (cR, 512, .inl ((g2_11))))]) [4, 5] (by decide) rfl
        have hFc := va_free (wc := [(h0, .inr (3, [.ref hrw, .int (nI q2_10)])), (hrw, .inl (cR, 512, .inl ((g2_11))))]) hD hS hA [4, 5] rfl
        refine va_callv (va_runV (As := [.int (nI (bst L j L2 k2).2)]) (rest := []) ⟨hx, hb, hml, hown, hw0⟩ (g_writeNumber l dC dI H.size h0 hrw cR q2_10 (g2_11) _ ((bst L j L2 k2).2) (by first | assumption | decide | omega) (by first | assumption | decide | omega) (by first | assumption | decide | omega)) (cwV 1 hw0 (gd_V 131 132 133 94 134 rfl rfl rfl rfl rfl) rfl rfl rfl (by decide +kernel) ⟨by decide +kernel, by decide +kernel⟩) (prV_E hPc hKc hDc hN (va_recv hKc hPc (ci := 3) (q0 := 0) rfl rfl)) rfl rfl hl.1 rfl (lv_room (Nat.le_of_ble_eq_true rfl)) d_W_writeDifferences_66 ⟨by decide +kernel, by decide +kernel⟩) hS (fun q _ h => hFc q h) hFc (fun u t H1 locs ht hvm hw hB hz1 hk1 hS => ?_)
        obtain ⟨q2_13, g2_14, ⟨hu_15_0, hu_15_1⟩, hP1, hK1, hD1⟩ := hB
        rw [ht] at hP1
        have hK1 := va_K.moved hvm.symm hK1
        try dsimp only at hw
        obtain ⟨hP, hD⟩ := va_join (wr := [(h2, .inr (1, [.ref hy2, .int (nI k2)])), (hy2, .inl (cB2, 256, .inl (fo))), (h1, .inr (1, [.ref hy, .int (nI k)])), (hy, .inl (cB, 256, .inl ((f))))]) (w1 := [(h0, .inr (3, [.ref hrw, .int (nI q2_13)])), (hrw, .inl (cR, 512, .inl (g2_14)))]) hP hD [4, 5] [0, 1, 2, 3] rfl rfl (by decide) (by decide) hk1 hFc hP1 hD1
        generalize H1 = H at hP hS ⊢
        replace hP : va_P (dC, dI) vwCl [(h2, .inr (1, [.ref hy2, .int (nI k2)])), (hy2, .inl (cB2, 256, .inl (fo))), (h1, .inr (1, [.ref hy, .int (nI k)])), (hy, .inl (cB, 256, .inl ((f)))), (h0, .inr (3, [.ref hrw, .int (nI q2_13)])), (hrw, .inl (cR, 512, .inl (g2_14)))] H := hP
        replace hD : va_D A [(h2, .inr (1, [.ref hy2, .int (nI k2)])), (hy2, .inl (cB2, 256, .inl (fo))), (h1, .inr (1, [.ref hy, .int (nI k)])), (hy, .inl (cB, 256, .inl ((f)))), (h0, .inr (3, [.ref hrw, .int (nI q2_13)])), (hrw, .inl (cR, 512, .inl (g2_14)))] := hD
        replace hK : va_K (dC, dI) vwCl [(cR, .byte), (cB, .byte), (cB2, .byte)] s := hK
        refine lv_iload hx hb d_W_writeDifferences_69 (lv_at hl 2 rfl) ?_
        refine lv_iload hx hb d_W_writeDifferences_71 (lv_at hl 0 rfl) ?_
        refine lv_iadd hx hb d_W_writeDifferences_73 ?_
        refine lv_topi (fun x_16 ex_16 => ?_)
        obtain rfl : x_16 = (nI (j + (cpl (L.drop j) (L2.drop (bst L j L2 k2).2)))) := by rw [ex_16]; exact nI_add j _
        clear ex_16
        refine lv_istore (lv' := [(4, .int (nI (j + (cpl (L.drop j) (L2.drop (bst L j L2 k2).2))))), (6, .int (nI (cpl (L.drop j) (L2.drop (bst L j L2 k2).2)))), (5, .int (nI (bst L j L2 k2).2)), (3, .int (nI nw)), (0, .ref h0), (1, .ref h1), (2, .ref h2)]) hx hb d_W_writeDifferences_74 hl (by decide) rfl (fun ls hl => ?_)
        refine lv_iload hx hb d_W_writeDifferences_76 (lv_at hl 0 rfl) ?_
        refine lv_istore_n (lv' := [(3, .int (nI (j + (cpl (L.drop j) (L2.drop (bst L j L2 k2).2))))), (4, .int (nI (j + (cpl (L.drop j) (L2.drop (bst L j L2 k2).2))))), (6, .int (nI (cpl (L.drop j) (L2.drop (bst L j L2 k2).2)))), (5, .int (nI (bst L j L2 k2).2)), (0, .ref h0), (1, .ref h1), (2, .ref h2)]) hx hb d_W_writeDifferences_78 rfl hl (by decide) rfl (fun ls hl => ?_)
        refine lv_goto (tgt := 85) hx hb d_W_writeDifferences_79 (by decide) ?_
        refine lv_goto (tgt := 10) hx hb d_W_writeDifferences_85 (by decide) ?_
        exact ih (j + (cpl (L.drop j) (L2.drop (bst L j L2 k2).2))) (by omega) (by omega) (j + (cpl (L.drop j) (L2.drop (bst L j L2 k2).2))) q2_13 g2_14 (((P ++ insE L nw j) ++ encN (2 * (cpl (L.drop j) (L2.drop (bst L j L2 k2).2)) + 1)) ++ encN (bst L j L2 k2).2) F1 (Nat.le_refl _) hu_15_1 (by omega) (by omega) (by rw [← hf4, dif_copy htx2.1 (by rw [htx.1]; exact hlt) h4.1]; simp only [List.append_assoc]) _ _ (hP.sub (ws' := [(h0, .inr (3, [.ref hrw, .int (nI q2_13)])), (hrw, .inl (cR, 512, .inl (g2_14))), (h1, .inr (1, [.ref hy, .int (nI k)])), (hy, .inl (cB, 256, .inl (f))), (h2, .inr (1, [.ref hy2, .int (nI k2)])), (hy2, .inl (cB2, 256, .inl (fo)))]) [4, 5, 2, 3, 0, 1] rfl) (hD.sub (ws' := [(h0, .inr (3, [.ref hrw, .int (nI q2_13)])), (hrw, .inl (cR, 512, .inl (g2_14))), (h1, .inr (1, [.ref hy, .int (nI k)])), (hy, .inl (cB, 256, .inl (f))), (h2, .inr (1, [.ref hy2, .int (nI k2)])), (hy2, .inl (cB2, 256, .inl (fo)))]) [4, 5, 2, 3, 0, 1] (by decide) rfl) hS ls (lv_sub hl [1, 0, 4, 5, 6] rfl)
set_option maxHeartbeats 4000000 in
set_option maxRecDepth 100000 in
theorem g_writeDifferences (l : Launch) (dC : Nat → ClassId) (dI : Nat → Nat → Nat) (sz : Nat) (h0 : Nat) (hrw : Nat) (cR : ClassId) (q : Nat) (g : Nat → Int32) (h1 : Nat) (hy : Nat) (cB : ClassId) (k : Nat) (f : Nat → Int32) (L : List Int32) (h2 : Nat) (hy2 : Nat) (cB2 : ClassId) (k2 : Nat) (fo : Nat → Int32) (L2 : List Int32) (htx : tx L k f) (htx2 : tx L2 k2 fo) (hk : k ≤ 256) (hk2 : k2 ≤ 256) : Met l y_W_writeDifferences k_W_writeDifferences ({ frames := 3, cells := 0, slots := 0, locals := 75 } : Room) (va_Pc [.ref h0, .ref h1, .ref h2] (pc_E (dC, dI) [(h0, .inr (3, [.ref hrw, .int (nI q)])), (hrw, .inl (cR, 512, .inl (g))), (h1, .inr (1, [.ref hy, .int (nI k)])), (hy, .inl (cB, 256, .inl (f))), (h2, .inr (1, [.ref hy2, .int (nI k2)])), (hy2, .inl (cB2, 256, .inl (fo)))] [(cR, .byte), (cB, .byte), (cB2, .byte)] sz)) (va_Qv (fun (_ : Unit) => True) (fun (_ : Unit) t => ∃ (q2 : Nat) (g2 : Nat → Int32), (q2 ≤ 512 ∧ tx (dif L L2 k 0 0) q2 g2) ∧ at_E (dC, dI) (va_A [(h0, .inr (3, [.ref hrw, .int (nI q)])), (hrw, .inl (cR, 512, .inl (g))), (h1, .inr (1, [.ref hy, .int (nI k)])), (hy, .inl (cB, 256, .inl (f))), (h2, .inr (1, [.ref hy2, .int (nI k2)])), (hy2, .inl (cB2, 256, .inl (fo)))] sz) [(h0, .inr (3, [.ref hrw, .int (nI q2)])), (hrw, .inl (cR, 512, .inl (g2))), (h1, .inr (1, [.ref hy, .int (nI k)])), (hy, .inl (cB, 256, .inl (f))), (h2, .inr (1, [.ref hy2, .int (nI k2)])), (hy2, .inl (cB2, 256, .inl (fo)))] [(cR, .byte), (cB, .byte), (cB2, .byte)] t) (va_A [(h0, .inr (3, [.ref hrw, .int (nI q)])), (hrw, .inl (cR, 512, .inl (g))), (h1, .inr (1, [.ref hy, .int (nI k)])), (hy, .inl (cB, 256, .inl (f))), (h2, .inr (1, [.ref hy2, .int (nI k2)])), (hy2, .inl (cB2, 256, .inl (fo)))] sz)) 0 0 (va_A [(h0, .inr (3, [.ref hrw, .int (nI q)])), (hrw, .inl (cR, 512, .inl (g))), (h1, .inr (1, [.ref hy, .int (nI k)])), (hy, .inl (cB, 256, .inl (f))), (h2, .inr (1, [.ref hy2, .int (nI k2)])), (hy2, .inl (cB2, 256, .inl (fo)))] sz) := by
  refine Met.ofW (cc := prog_4_method_3_code) (maxL := 7) (ret := none) (by decide) rfl ?_
  intro p e s m args below meth c s₁ B hml hv
  obtain ⟨rfl, hsz, hP, hK, hD0, hN⟩ := hv
  have hx := B.exec
  have hb := B.bytes
  have hr := B.returns
  have hts := atoms_spec (ws := k_W_writeDifferences) B.pre
  have hw0 : ∀ w ∈ w0, w.before _ s = true := fun w h => hts w (List.mem_cons_of_mem _ h)
  have hown : s.vm.findClass R_W = some m.cls := findClass_of_methodNamed B.named
  have hlocks := B.notSynchronized
  subst hsz
  have hD := hD0.self (sz := s.heap.size)
  generalize hAe : va_A [(h0, .inr (3, [.ref hrw, .int (nI q)])), (hrw, .inl (cR, 512, .inl (g))), (h1, .inr (1, [.ref hy, .int (nI k)])), (hy, .inl (cB, 256, .inl (f))), (h2, .inr (1, [.ref hy2, .int (nI k2)])), (hy2, .inl (cB2, 256, .inl (fo)))] s.heap.size = A at hD ⊢
  have hA : ∀ q : Nat, s.heap.size ≤ q → A q := fun q h => by rw [← hAe]; exact Or.inr h
  have hS : va_S A s.heap s.heap [] := va_S.rf
  have hP : va_P (dC, dI) vwCl [(h0, .inr (3, [.ref hrw, .int (nI q)])), (hrw, .inl (cR, 512, .inl (g))), (h1, .inr (1, [.ref hy, .int (nI k)])), (hy, .inl (cB, 256, .inl (f))), (h2, .inr (1, [.ref hy2, .int (nI k2)])), (hy2, .inl (cB2, 256, .inl (fo)))] s.heap := hP
  have hl := lv_entry ([.ref h0, .ref h1, .ref h2]) (n := 7) (Nat.le_of_ble_eq_true rfl)
  rw [lg_entry_eq]
  generalize (lg_sl ([.ref h0, .ref h1, .ref h2]) ++ List.replicate (7 - (lg_sl ([.ref h0, .ref h1, .ref h2])).length) Slot.unset).toArray = ls at hl ⊢
  have hl : lv_has ls 7 [(0, .ref h0), (1, .ref h1), (2, .ref h2)] := hl
  refine lv_aload_n hx hb d_W_writeDifferences_0 rfl (lv_at hl 0 rfl) ?_
  refine lv_iconst (v := 0) hx hb d_W_writeDifferences_1 (by decide) ?_
  refine va_put (D := (dC, dI)) (ci := 3) (v := .int 0) (ty := .int) (C := R_W) (T := F_W) (N := 2) hx hb hw0 in_W ft_W tk_W nk_W hown hK hP hD hS 0 rfl rfl 1 (by decide) (hw0 (.fieldLink R_W 15 "TextKeeper$PieceWriter" "length" "I") (List.mem_of_getElem? (i := 65) rfl)) (fun _ h9 => h9) rfl (by decide +kernel) rfl rfl (Nat.le_of_ble_eq_true rfl) d_W_writeDifferences_2 (fun H locs hP hD hS => ?_)
  replace hP : va_P (dC, dI) vwCl [(h0, .inr (3, [.ref hrw, .int 0])), (hrw, .inl (cR, 512, .inl (g))), (h1, .inr (1, [.ref hy, .int (nI k)])), (hy, .inl (cB, 256, .inl (f))), (h2, .inr (1, [.ref hy2, .int (nI k2)])), (hy2, .inl (cB2, 256, .inl (fo)))] H := hP
  replace hD : va_D A [(h0, .inr (3, [.ref hrw, .int 0])), (hrw, .inl (cR, 512, .inl (g))), (h1, .inr (1, [.ref hy, .int (nI k)])), (hy, .inl (cB, 256, .inl (f))), (h2, .inr (1, [.ref hy2, .int (nI k2)])), (hy2, .inl (cB2, 256, .inl (fo)))] := hD
  refine lv_iconst (v := 0) hx hb d_W_writeDifferences_5 (by decide) ?_
  refine lv_istore_n (lv' := [(3, .int 0), (0, .ref h0), (1, .ref h1), (2, .ref h2)]) hx hb d_W_writeDifferences_6 rfl hl (by decide) rfl (fun ls hl => ?_)
  refine lv_iconst (v := 0) hx hb d_W_writeDifferences_7 (by decide) ?_
  refine lv_istore (lv' := [(4, .int 0), (3, .int 0), (0, .ref h0), (1, .ref h1), (2, .ref h2)]) hx hb d_W_writeDifferences_8 hl (by decide) rfl (fun ls hl => ?_)
  refine lq_dif h0 hrw cR h1 hy cB k f L h2 hy2 cB2 k2 fo L2 (dif L L2 k 0 0) htx htx2 hk hk2 hx hb hml hown hw0 hN (hK.sub (tys' := [(cR, .byte), (cB, .byte), (cB2, .byte)]) [0, 1, 2] rfl) hA (fun nw9 q9 g9 P9 F9 hf0 hf1 hf2 hf3 hf4 H locs hP hD hS ls hl => ?_) (k + 1) 0 (by omega) (by omega) 0 0 g [] k (Nat.le_refl 0) (tx_nil _) (by omega) (by omega) rfl _ _ (hP.sub (ws' := [(h0, .inr (3, [.ref hrw, .int (nI 0)])), (hrw, .inl (cR, 512, .inl (g))), (h1, .inr (1, [.ref hy, .int (nI k)])), (hy, .inl (cB, 256, .inl (f))), (h2, .inr (1, [.ref hy2, .int (nI k2)])), (hy2, .inl (cB2, 256, .inl (fo)))]) [0, 1, 2, 3, 4, 5] rfl) (hD.sub (ws' := [(h0, .inr (3, [.ref hrw, .int (nI 0)])), (hrw, .inl (cR, 512, .inl (g))), (h1, .inr (1, [.ref hy, .int (nI k)])), (hy, .inl (cB, 256, .inl (f))), (h2, .inr (1, [.ref hy2, .int (nI k2)])), (hy2, .inl (cB2, 256, .inl (fo)))]) [0, 1, 2, 3, 4, 5] (by decide) rfl) hS ls (lv_sub hl [0, 1, 2, 3, 4] rfl)
  replace hK := hK.sub (tys' := [(cR, .byte), (cB, .byte), (cB2, .byte)]) [0, 1, 2] rfl
  have hdi := dgt_ins (k - nw9)
  refine lv_aload_n hx hb d_W_writeDifferences_88 rfl (lv_at hl 2 rfl) ?_
  refine lv_aload_n hx hb d_W_writeDifferences_89 rfl (lv_at hl 3 rfl) ?_
  refine lv_iload_n hx hb d_W_writeDifferences_90 rfl (lv_at hl 1 rfl) ?_
  refine lv_aload_n hx hb d_W_writeDifferences_91 rfl (lv_at hl 3 rfl) ?_
  refine va_getN (D := (dC, dI)) (ci := 1) (v := .int (nI k)) (C := R_T) (T := F_T) (N := 2) hx hb hw0 in_T hown hK hP 2 rfl rfl 1 (by decide) (va_Nw.use rfl (hN.1 (.fieldLinkNest R_W 23 "TextKeeper$Text" "length" "I" "TextKeeper") (List.mem_of_getElem? (i := 0) rfl))) (fun _ h9 => h9) rfl d_W_writeDifferences_92 ?_
  have hPc := hP.sub (ws' := [(h0, .inr (3, [.ref hrw, .int (nI q9)])), (hrw, .inl (cR, 512, .inl ((g9)))), (h1, .inr (1, [.ref hy, .int (nI k)])), (hy, .inl (cB, 256, .inl ((f))))]) [0, 1, 2, 3] rfl
  have hKc := hK.sub (tys' := [(cR, .byte), (cB, .byte)]) [0, 1] rfl
  have hDc := hD.sub (ws' := [(h0, .inr (3, [.ref hrw, .int (nI q9)])), (hrw, .inl (cR, 512, .inl ((g9)))), (h1, .inr (1, [.ref hy, .int (nI k)])), (hy, .inl (cB, 256, .inl ((f))))]) [0, 1, 2, 3] (by decide) rfl
  have hFc := va_free (wc := [(h0, .inr (3, [.ref hrw, .int (nI q9)])), (hrw, .inl (cR, 512, .inl ((g9)))), (h1, .inr (1, [.ref hy, .int (nI k)])), (hy, .inl (cB, 256, .inl ((f))))]) hD hS hA [0, 1, 2, 3] rfl
  refine va_callv (va_runV (As := [.ref h1, .int (nI nw9), .int (nI k)]) (rest := []) ⟨hx, hb, hml, hown, hw0⟩ (g_writeInsert l dC dI H.size h0 hrw cR q9 (g9) _ h1 hy cB k (f) _ nw9 k (by first | assumption | decide | omega) (by first | assumption | decide | omega) (by first | assumption | decide | omega) (by first | assumption | decide | omega) (by first | assumption | decide | omega) (by first | assumption | decide | omega)) (cwV 3 hw0 (gd_V 142 143 144 94 145 rfl rfl rfl rfl rfl) rfl rfl rfl (by decide +kernel) ⟨by decide +kernel, by decide +kernel⟩) (prV_E hPc hKc hDc hN (va_recv hKc hPc (ci := 3) (q0 := 0) rfl rfl)) rfl rfl hl.1 rfl (lv_room (Nat.le_of_ble_eq_true rfl)) d_W_writeDifferences_95 ⟨by decide +kernel, by decide +kernel⟩) hS (fun q _ h => hFc q h) hFc (fun u t H1 locs ht hvm hw hB hz1 hk1 hS => ?_)
  obtain ⟨q2_1, g2_2, ⟨hu_3_0, hu_3_1⟩, hP1, hK1, hD1⟩ := hB
  rw [ht] at hP1
  have hK1 := va_K.moved hvm.symm hK1
  try dsimp only at hw
  obtain ⟨hP, hD⟩ := va_join (wr := [(h2, .inr (1, [.ref hy2, .int (nI k2)])), (hy2, .inl (cB2, 256, .inl (fo)))]) (w1 := [(h0, .inr (3, [.ref hrw, .int (nI q2_1)])), (hrw, .inl (cR, 512, .inl (g2_2))), (h1, .inr (1, [.ref hy, .int (nI k)])), (hy, .inl (cB, 256, .inl ((f))))]) hP hD [0, 1, 2, 3] [4, 5] rfl rfl (by decide) (by decide) hk1 hFc hP1 hD1
  generalize H1 = H at hP hS ⊢
  replace hP : va_P (dC, dI) vwCl [(h2, .inr (1, [.ref hy2, .int (nI k2)])), (hy2, .inl (cB2, 256, .inl (fo))), (h0, .inr (3, [.ref hrw, .int (nI q2_1)])), (hrw, .inl (cR, 512, .inl (g2_2))), (h1, .inr (1, [.ref hy, .int (nI k)])), (hy, .inl (cB, 256, .inl ((f))))] H := hP
  replace hD : va_D A [(h2, .inr (1, [.ref hy2, .int (nI k2)])), (hy2, .inl (cB2, 256, .inl (fo))), (h0, .inr (3, [.ref hrw, .int (nI q2_1)])), (hrw, .inl (cR, 512, .inl (g2_2))), (h1, .inr (1, [.ref hy, .int (nI k)])), (hy, .inl (cB, 256, .inl ((f))))] := hD
  replace hK : va_K (dC, dI) vwCl [(cR, .byte), (cB, .byte), (cB2, .byte)] s := hK
  have hP9 := hP.sub (ws' := [(h0, .inr (3, [.ref hrw, .int (nI q2_1)])), (hrw, .inl (cR, 512, .inl (g2_2))), (h1, .inr (1, [.ref hy, .int (nI k)])), (hy, .inl (cB, 256, .inl (f))), (h2, .inr (1, [.ref hy2, .int (nI k2)])), (hy2, .inl (cB2, 256, .inl (fo)))]) [2, 3, 4, 5, 0, 1] rfl
  have hD9 := hD.sub (ws' := [(h0, .inr (3, [.ref hrw, .int (nI q2_1)])), (hrw, .inl (cR, 512, .inl (g2_2))), (h1, .inr (1, [.ref hy, .int (nI k)])), (hy, .inl (cB, 256, .inl (f))), (h2, .inr (1, [.ref hy2, .int (nI k2)])), (hy2, .inl (cB2, 256, .inl (fo)))]) [2, 3, 4, 5, 0, 1] (by decide) rfl
  have hK9 := hK.sub (tys' := [(cR, .byte), (cB, .byte), (cB2, .byte)]) [0, 1, 2] rfl
  exact W.vret hx hb hr (fun t ht hW => ⟨⟨(), rfl, trivial, q2_1, g2_2, (x_difE htx.1 hf0 hf2 hk hf4 hu_3_0 hu_3_1), by rw [ht]; exact hP9, va_K.moved hW.alike hK9, hD9⟩, hS.F ht⟩) hS.2.2 d_W_writeDifferences_98
set_option maxHeartbeats 4000000 in
set_option maxRecDepth 100000 in
theorem g_copyOf (l : Launch) (dC : Nat → ClassId) (dI : Nat → Nat → Nat) (sz : Nat) (hs : Nat) (cR : ClassId) (g : Nat → Int32) (q : Nat) (P : List Int32) (hp : tx P q g) (hq : q ≤ 258) : Met l y_A_copyOf k_A_copyOf ({ frames := 1, cells := 1, slots := 258, locals := 40 } : Room) (va_Pc [.ref hs, .int (nI q)] (pc_E (dC, dI) [(hs, .inl (cR, 512, .inl (g)))] [(cR, .byte)] sz)) (va_Qr (fun (_ : Unit) => True) (fun (_ : Unit) ra t => ∃ (cP : ClassId) (f2 : Nat → Int32), (tx P q f2) ∧ at_E (dC, dI) (va_A [(hs, .inl (cR, 512, .inl (g)))] sz) [(hs, .inl (cR, 512, .inl (g))), (ra, .inl (cP, q, .inl (f2)))] [(cR, .byte), (cP, .byte)] t) (va_A [(hs, .inl (cR, 512, .inl (g)))] sz)) 1 258 (va_A [(hs, .inl (cR, 512, .inl (g)))] sz) := by
  refine Met.ofW (cc := prog_19_method_121_code) (maxL := 3) (ret := (some (.array .byte))) (by decide) rfl ?_
  intro p e s m args below meth c s₁ B hml hv
  obtain ⟨rfl, hsz, hP, hK, hD0, hN⟩ := hv
  have hx := B.exec
  have hb := B.bytes
  have hr := B.returns
  have hts := atoms_spec (ws := k_A_copyOf) B.pre
  have hw0 : ∀ w ∈ w0, w.before _ s = true := fun w h => hts w (List.mem_cons_of_mem _ h)
  have hown : s.vm.findClass R_A = some m.cls := findClass_of_methodNamed B.named
  have hlocks := B.notSynchronized
  subst hsz
  have hD := hD0.self (sz := s.heap.size)
  generalize hAe : va_A [(hs, .inl (cR, 512, .inl (g)))] s.heap.size = A at hD ⊢
  have hA : ∀ q : Nat, s.heap.size ≤ q → A q := fun q h => by rw [← hAe]; exact Or.inr h
  have hS : va_S A s.heap s.heap [] := va_S.rf
  have hP : va_P (dC, dI) vwCl [(hs, .inl (cR, 512, .inl (g)))] s.heap := hP
  have hl := lv_entry ([.ref hs, .int (nI q)]) (n := 3) (Nat.le_of_ble_eq_true rfl)
  rw [lg_entry_eq]
  generalize (lg_sl ([.ref hs, .int (nI q)]) ++ List.replicate (3 - (lg_sl ([.ref hs, .int (nI q)])).length) Slot.unset).toArray = ls at hl ⊢
  have hl : lv_has ls 3 [(0, .ref hs), (1, .int (nI q))] := hl
  refine lv_iload_n hx hb d_A_copyOf_0 rfl (lv_at hl 1 rfl) ?_
  refine lv_aload_n hx hb d_A_copyOf_1 rfl (lv_at hl 0 rfl) ?_
  refine va_alen (v := 512) hx hb hK hP 0 0 rfl rfl (show Int32.ofNat 512 = 512 from by decide +kernel) d_A_copyOf_2 ?_
  refine lv_icmp_ne (tgt := 14) hx hb d_A_copyOf_3 (by decide) (fun c_1 => ?_) (fun c_1 => absurd ((nI_eq (a := q) (b := 512) (by omega) (by decide)).mp c_1) (by omega))
  refine lv_iload_n hx hb d_A_copyOf_14 rfl (lv_at hl 1 rfl) ?_
  refine va_newa (atype := .byte) (ty := .byte) (N' := q) (a0 := (q, .inl (fun _ => 0))) hx hb (hw0 (.arrayClass .byte) (List.mem_of_getElem? (i := 60) rfl)) rfl hK hP hD hS hA (fun _ => rfl) (nI_pos (by omega)) (nI_clamp (by omega)) (by show q * 1 ≤ 536870912; omega) (by decide +kernel) (by show 0 + q ≤ 258; omega) d_A_copyOf_15 (fun q_2 cA_3 H hK hP hD hS => ?_)
  replace hK : va_K (dC, dI) vwCl [(cR, .byte), (cA_3, .byte)] s := hK
  replace hP : va_P (dC, dI) vwCl [(hs, .inl (cR, 512, .inl (g))), (q_2, .inl (cA_3, q, .inl (fun _ => 0)))] H := hP
  replace hD : va_D A [(hs, .inl (cR, 512, .inl (g))), (q_2, .inl (cA_3, q, .inl (fun _ => 0)))] := hD
  refine W.widen (k := 1) (n := 258) (by decide +kernel) (by omega) ?_
  refine lv_astore_n (lv' := [(2, .ref q_2), (0, .ref hs), (1, .int (nI q))]) hx hb d_A_copyOf_17 rfl hl (by decide) rfl (fun ls hl => ?_)
  refine lv_aload_n hx hb d_A_copyOf_18 rfl (lv_at hl 1 rfl) ?_
  refine lv_iconst (v := 0) hx hb d_A_copyOf_19 (by decide) ?_
  refine lv_aload_n hx hb d_A_copyOf_20 rfl (lv_at hl 0 rfl) ?_
  refine lv_iconst (v := 0) hx hb d_A_copyOf_21 (by decide) ?_
  refine lv_aload_n hx hb d_A_copyOf_22 rfl (lv_at hl 1 rfl) ?_
  refine va_alen (v := 512) hx hb hK hP 0 0 rfl rfl (show Int32.ofNat 512 = 512 from by decide +kernel) d_A_copyOf_23 ?_
  refine lv_iload_n hx hb d_A_copyOf_24 rfl (lv_at hl 2 rfl) ?_
  refine va_mmin hx hb (hml.trans hl.1.symm) hown (hw0 (.methodLink R_A 304 ⟨"java/lang/Math","min","(II)I"⟩) (List.mem_of_getElem? (i := 146) rfl)) (hw0 (.static ⟨"java/lang/Math","min","(II)I"⟩) (List.mem_of_getElem? (i := 118) rfl)) (hw0 (.initialized "java/lang/Math") (List.mem_of_getElem? (i := 119) rfl)) (hw0 (.code Lib.Math.min.name Lib.Math.min.code 2 (some .int)) (List.mem_of_getElem? (i := 116) rfl)) (Nat.le_of_ble_eq_true rfl) (Nat.le_of_ble_eq_true rfl) (by decide +kernel) (by decide +kernel) d_A_copyOf_25 ?_
  refine lv_topi (fun x_4 ex_4 => ?_)
  obtain rfl : x_4 = (nI (min 512 q)) := ex_4.trans (x_min (a := 512) (b := q) (by omega) (by omega))
  clear ex_4
  refine va_copyi (ty := .byte) hx hb (hml.trans hl.1.symm) hown (hw0 (.methodLink R_A 150 ⟨"java/lang/System","arraycopy","(Ljava/lang/Object;ILjava/lang/Object;II)V"⟩) (List.mem_of_getElem? (i := 147) rfl)) (hw0 (.native ⟨"java/lang/System","arraycopy","(Ljava/lang/Object;ILjava/lang/Object;II)V"⟩) (List.mem_of_getElem? (i := 113) rfl)) (hw0 (.static ⟨"java/lang/System","arraycopy","(Ljava/lang/Object;ILjava/lang/Object;II)V"⟩) (List.mem_of_getElem? (i := 114) rfl)) (hw0 (.initialized "java/lang/System") (List.mem_of_getElem? (i := 115) rfl)) hK hP hD hS 0 1 0 1 rfl rfl rfl rfl rfl (by decide +kernel) (by decide +kernel) (nI_pos (by omega)) (by rw [sb_cl0, nI_clamp (by omega)]; omega) (by rw [sb_cl0, nI_clamp (by omega)]; omega) (fun i hi => by rw [nI_clamp (by omega)] at hi; rw [sb_cl0, Nat.zero_add]; exact fits_B (tx_inB hp (by omega))) (Nat.le_of_ble_eq_true rfl) (by decide +kernel) d_A_copyOf_28 (fun H locs hP hD hS => ?_)
  replace hP : va_P (dC, dI) vwCl [(hs, .inl (cR, 512, .inl (g))), (q_2, .inl (cA_3, q, .inl (va_cpy (g) (fun _ => 0) (Int32.toNatClampNeg 0) (Int32.toNatClampNeg 0) (Int32.toNatClampNeg (nI (min 512 q))))))] H := hP
  replace hD : va_D A [(hs, .inl (cR, 512, .inl (g))), (q_2, .inl (cA_3, q, .inl (va_cpy (g) (fun _ => 0) (Int32.toNatClampNeg 0) (Int32.toNatClampNeg 0) (Int32.toNatClampNeg (nI (min 512 q))))))] := hD
  have eC : va_cpy (g) (fun _ => 0) (Int32.toNatClampNeg 0) (Int32.toNatClampNeg 0) (Int32.toNatClampNeg (nI (min 512 q))) = va_cpy g (fun _ => 0) 0 0 q := by rw [sb_cl0, nI_clamp (by omega), Nat.min_eq_right (by omega)]
  rw [eC] at hP hD
  refine lv_aload_n hx hb d_A_copyOf_31 rfl (lv_at hl 0 rfl) ?_
  have hP9 := hP.sub (ws' := [(hs, .inl (cR, 512, .inl (g))), (q_2, .inl (cA_3, q, .inl ((va_cpy g (fun _ => 0) 0 0 q))))]) [0, 1] rfl
  have hD9 := hD.sub (ws' := [(hs, .inl (cR, 512, .inl (g))), (q_2, .inl (cA_3, q, .inl ((va_cpy g (fun _ => 0) 0 0 q))))]) [0, 1] (by decide) rfl
  have hK9 := hK.sub (tys' := [(cR, .byte), (cA_3, .byte)]) [0, 1] rfl
  exact W.aret (v := .ref q_2) hx hb hr (Or.inr ⟨_, rfl⟩) (Or.inr ⟨_, rfl⟩) (fun t ht hW => ⟨⟨(), q_2, rfl, trivial, cA_3, (va_cpy g (fun _ => 0) 0 0 q), tx_cpy hp, by rw [ht]; exact hP9, va_K.moved hW.alike hK9, hD9⟩, hS.F ht⟩) hS.2.2 d_A_copyOf_32
set_option maxHeartbeats 4000000 in
set_option maxRecDepth 100000 in
theorem g_pieceOf (l : Launch) (dC : Nat → ClassId) (dI : Nat → Nat → Nat) (sz : Nat) (h0 : Nat) (hrw : Nat) (cR : ClassId) (q : Nat) (g : Nat → Int32) (h1 : Nat) (hy : Nat) (cB : ClassId) (k : Nat) (f : Nat → Int32) (L : List Int32) (h2 : Nat) (hy2 : Nat) (cB2 : ClassId) (k2 : Nat) (fo : Nat → Int32) (L2 : List Int32) (htx : tx L k f) (htx2 : tx L2 k2 fo) (hk : k ≤ 256) (hk2 : k2 ≤ 256) : Met l y_W_pieceOf k_W_pieceOf ({ frames := 4, cells := 1, slots := 258, locals := 101 } : Room) (va_Pc [.ref h0, .ref h1, .ref h2] (pc_E (dC, dI) [(h0, .inr (3, [.ref hrw, .int (nI q)])), (hrw, .inl (cR, 512, .inl (g))), (h1, .inr (1, [.ref hy, .int (nI k)])), (hy, .inl (cB, 256, .inl (f))), (h2, .inr (1, [.ref hy2, .int (nI k2)])), (hy2, .inl (cB2, 256, .inl (fo)))] [(cR, .byte), (cB, .byte), (cB2, .byte)] sz)) (va_Qr (fun (_ : Unit) => True) (fun (_ : Unit) ra t => ∃ (q2 : Nat) (g2 : Nat → Int32) (n : Nat) (cP : ClassId) (f2 : Nat → Int32), (tx (pce L L2) n f2) ∧ at_E (dC, dI) (va_A [(h0, .inr (3, [.ref hrw, .int (nI q)])), (hrw, .inl (cR, 512, .inl (g))), (h1, .inr (1, [.ref hy, .int (nI k)])), (hy, .inl (cB, 256, .inl (f))), (h2, .inr (1, [.ref hy2, .int (nI k2)])), (hy2, .inl (cB2, 256, .inl (fo)))] sz) [(h0, .inr (3, [.ref hrw, .int (nI q2)])), (hrw, .inl (cR, 512, .inl (g2))), (h1, .inr (1, [.ref hy, .int (nI k)])), (hy, .inl (cB, 256, .inl (f))), (h2, .inr (1, [.ref hy2, .int (nI k2)])), (hy2, .inl (cB2, 256, .inl (fo))), (ra, .inl (cP, n, .inl (f2)))] [(cR, .byte), (cB, .byte), (cB2, .byte), (cP, .byte)] t) (va_A [(h0, .inr (3, [.ref hrw, .int (nI q)])), (hrw, .inl (cR, 512, .inl (g))), (h1, .inr (1, [.ref hy, .int (nI k)])), (hy, .inl (cB, 256, .inl (f))), (h2, .inr (1, [.ref hy2, .int (nI k2)])), (hy2, .inl (cB2, 256, .inl (fo)))] sz)) 1 258 (va_A [(h0, .inr (3, [.ref hrw, .int (nI q)])), (hrw, .inl (cR, 512, .inl (g))), (h1, .inr (1, [.ref hy, .int (nI k)])), (hy, .inl (cB, 256, .inl (f))), (h2, .inr (1, [.ref hy2, .int (nI k2)])), (hy2, .inl (cB2, 256, .inl (fo)))] sz) := by
  refine Met.ofW (cc := prog_4_method_2_code) (maxL := 3) (ret := (some (.array .byte))) (by decide) rfl ?_
  intro p e s m args below meth c s₁ B hml hv
  obtain ⟨rfl, hsz, hP, hK, hD0, hN⟩ := hv
  have hx := B.exec
  have hb := B.bytes
  have hr := B.returns
  have hts := atoms_spec (ws := k_W_pieceOf) B.pre
  have hw0 : ∀ w ∈ w0, w.before _ s = true := fun w h => hts w (List.mem_cons_of_mem _ h)
  have hown : s.vm.findClass R_W = some m.cls := findClass_of_methodNamed B.named
  have hlocks := B.notSynchronized
  subst hsz
  have hD := hD0.self (sz := s.heap.size)
  generalize hAe : va_A [(h0, .inr (3, [.ref hrw, .int (nI q)])), (hrw, .inl (cR, 512, .inl (g))), (h1, .inr (1, [.ref hy, .int (nI k)])), (hy, .inl (cB, 256, .inl (f))), (h2, .inr (1, [.ref hy2, .int (nI k2)])), (hy2, .inl (cB2, 256, .inl (fo)))] s.heap.size = A at hD ⊢
  have hA : ∀ q : Nat, s.heap.size ≤ q → A q := fun q h => by rw [← hAe]; exact Or.inr h
  have hS : va_S A s.heap s.heap [] := va_S.rf
  have hP : va_P (dC, dI) vwCl [(h0, .inr (3, [.ref hrw, .int (nI q)])), (hrw, .inl (cR, 512, .inl (g))), (h1, .inr (1, [.ref hy, .int (nI k)])), (hy, .inl (cB, 256, .inl (f))), (h2, .inr (1, [.ref hy2, .int (nI k2)])), (hy2, .inl (cB2, 256, .inl (fo)))] s.heap := hP
  have hl := lv_entry ([.ref h0, .ref h1, .ref h2]) (n := 3) (Nat.le_of_ble_eq_true rfl)
  rw [lg_entry_eq]
  generalize (lg_sl ([.ref h0, .ref h1, .ref h2]) ++ List.replicate (3 - (lg_sl ([.ref h0, .ref h1, .ref h2])).length) Slot.unset).toArray = ls at hl ⊢
  have hl : lv_has ls 3 [(0, .ref h0), (1, .ref h1), (2, .ref h2)] := hl
  have hdk := dgt_le (2 * k)
  refine lv_aload_n hx hb d_W_pieceOf_0 rfl (lv_at hl 0 rfl) ?_
  refine lv_aload_n hx hb d_W_pieceOf_1 rfl (lv_at hl 1 rfl) ?_
  refine lv_aload_n hx hb d_W_pieceOf_2 rfl (lv_at hl 2 rfl) ?_
  have hPc := hP.sub (ws' := [(h0, .inr (3, [.ref hrw, .int (nI q)])), (hrw, .inl (cR, 512, .inl ((g)))), (h1, .inr (1, [.ref hy, .int (nI k)])), (hy, .inl (cB, 256, .inl ((f)))), (h2, .inr (1, [.ref hy2, .int (nI k2)])), (hy2, .inl (cB2, 256, .inl ((fo))))]) [0, 1, 2, 3, 4, 5] rfl
  have hKc := hK.sub (tys' := [(cR, .byte), (cB, .byte), (cB2, .byte)]) [0, 1, 2] rfl
  have hDc := hD.sub (ws' := [(h0, .inr (3, [.ref hrw, .int (nI q)])), (hrw, .inl (cR, 512, .inl ((g)))), (h1, .inr (1, [.ref hy, .int (nI k)])), (hy, .inl (cB, 256, .inl ((f)))), (h2, .inr (1, [.ref hy2, .int (nI k2)])), (hy2, .inl (cB2, 256, .inl ((fo))))]) [0, 1, 2, 3, 4, 5] (by decide) rfl
  have hFc := va_free (wc := [(h0, .inr (3, [.ref hrw, .int (nI q)])), (hrw, .inl (cR, 512, .inl ((g)))), (h1, .inr (1, [.ref hy, .int (nI k)])), (hy, .inl (cB, 256, .inl ((f)))), (h2, .inr (1, [.ref hy2, .int (nI k2)])), (hy2, .inl (cB2, 256, .inl ((fo))))]) hD hS hA [0, 1, 2, 3, 4, 5] rfl
  refine va_callv (va_runV (As := [.ref h1, .ref h2]) (rest := []) ⟨hx, hb, hml, hown, hw0⟩ (g_writeDifferences l dC dI s.heap.size h0 hrw cR q (g) h1 hy cB k (f) _ h2 hy2 cB2 k2 (fo) _ (by first | assumption | decide | omega) (by first | assumption | decide | omega) (by first | assumption | decide | omega) (by first | assumption | decide | omega)) (cwV 2 hw0 (gd_V 148 149 150 94 151 rfl rfl rfl rfl rfl) rfl rfl rfl (by decide +kernel) ⟨by decide +kernel, by decide +kernel⟩) (prV_E hPc hKc hDc hN (va_recv hKc hPc (ci := 3) (q0 := 0) rfl rfl)) rfl rfl hl.1 rfl (lv_room (Nat.le_of_ble_eq_true rfl)) d_W_pieceOf_3 ⟨by decide +kernel, by decide +kernel⟩) hS (fun q _ h => hFc q h) hFc (fun u t H1 locs ht hvm hw hB hz1 hk1 hS => ?_)
  obtain ⟨q2_1, g2_2, ⟨hu_3_0, hu_3_1⟩, hP1, hK1, hD1⟩ := hB
  rw [ht] at hP1
  have hK1 := va_K.moved hvm.symm hK1
  try dsimp only at hw
  obtain ⟨hP, hD⟩ := va_join (wr := []) (w1 := [(h0, .inr (3, [.ref hrw, .int (nI q2_1)])), (hrw, .inl (cR, 512, .inl (g2_2))), (h1, .inr (1, [.ref hy, .int (nI k)])), (hy, .inl (cB, 256, .inl ((f)))), (h2, .inr (1, [.ref hy2, .int (nI k2)])), (hy2, .inl (cB2, 256, .inl ((fo))))]) hP hD [0, 1, 2, 3, 4, 5] [] rfl rfl (by decide) (by decide) hk1 hFc hP1 hD1
  generalize H1 = H at hP hS ⊢
  replace hP : va_P (dC, dI) vwCl [(h0, .inr (3, [.ref hrw, .int (nI q2_1)])), (hrw, .inl (cR, 512, .inl (g2_2))), (h1, .inr (1, [.ref hy, .int (nI k)])), (hy, .inl (cB, 256, .inl ((f)))), (h2, .inr (1, [.ref hy2, .int (nI k2)])), (hy2, .inl (cB2, 256, .inl ((fo))))] H := hP
  replace hD : va_D A [(h0, .inr (3, [.ref hrw, .int (nI q2_1)])), (hrw, .inl (cR, 512, .inl (g2_2))), (h1, .inr (1, [.ref hy, .int (nI k)])), (hy, .inl (cB, 256, .inl ((f)))), (h2, .inr (1, [.ref hy2, .int (nI k2)])), (hy2, .inl (cB2, 256, .inl ((fo))))] := hD
  replace hK : va_K (dC, dI) vwCl [(cR, .byte), (cB, .byte), (cB2, .byte)] s := hK
  refine lv_aload_n hx hb d_W_pieceOf_6 rfl (lv_at hl 0 rfl) ?_
  refine va_get (D := (dC, dI)) (ci := 3) (v := .int (nI q2_1)) (C := R_W) (T := F_W) (N := 2) hx hb hw0 in_W hown hK hP 0 rfl rfl 1 (by decide) (hw0 (.fieldLink R_W 15 "TextKeeper$PieceWriter" "length" "I") (List.mem_of_getElem? (i := 65) rfl)) (fun _ h9 => h9) rfl d_W_pieceOf_7 ?_
  refine lv_iconst (v := 2) hx hb d_W_pieceOf_10 (by decide) ?_
  refine lv_aload_n hx hb d_W_pieceOf_11 rfl (lv_at hl 1 rfl) ?_
  refine va_getN (D := (dC, dI)) (ci := 1) (v := .int (nI k)) (C := R_T) (T := F_T) (N := 2) hx hb hw0 in_T hown hK hP 2 rfl rfl 1 (by decide) (va_Nw.use rfl (hN.1 (.fieldLinkNest R_W 23 "TextKeeper$Text" "length" "I" "TextKeeper") (List.mem_of_getElem? (i := 0) rfl))) (fun _ h9 => h9) rfl d_W_pieceOf_12 ?_
  refine lv_imul hx hb d_W_pieceOf_15 ?_
  refine lv_topi (fun x_4 ex_4 => ?_)
  obtain rfl : x_4 = (nI (2 * k)) := by rw [ex_4]; exact (show nI 2 * nI k = nI (2 * k) from pk_mul 2 k)
  clear ex_4
  have hPc := hP.sub (ws' := []) [] rfl
  have hKc := hK.sub (tys' := []) [] rfl
  refine ps_i (va_runS (As := [.int (nI (2 * k))]) (rest := [.int (nI q2_1)]) ⟨hx, hb, hml, hown, hw0⟩ (g_digitsOf l dC dI (2 * k) (by first | assumption | decide | omega)) (va_cwS 1 hw0 (gd_S 120 121 94 122 rfl rfl rfl rfl) rfl rfl rfl (by decide +kernel) ⟨by decide +kernel, by decide +kernel⟩) (prS_R hPc hKc hN) rfl rfl hl.1 rfl (lv_room (Nat.le_of_ble_eq_true rfl)) d_W_pieceOf_16 ⟨by decide +kernel, by decide +kernel⟩) (fun r_5 hr_5 => ?_)
  obtain rfl : r_5 = (nI (dgt (2 * k))) := hr_5
  refine lv_aload_n hx hb d_W_pieceOf_19 rfl (lv_at hl 1 rfl) ?_
  refine va_getN (D := (dC, dI)) (ci := 1) (v := .int (nI k)) (C := R_T) (T := F_T) (N := 2) hx hb hw0 in_T hown hK hP 2 rfl rfl 1 (by decide) (va_Nw.use rfl (hN.1 (.fieldLinkNest R_W 23 "TextKeeper$Text" "length" "I" "TextKeeper") (List.mem_of_getElem? (i := 0) rfl))) (fun _ h9 => h9) rfl d_W_pieceOf_20 ?_
  refine lv_iadd hx hb d_W_pieceOf_23 ?_
  refine lv_topi (fun x_6 ex_6 => ?_)
  obtain rfl : x_6 = (nI (dgt (2 * k) + k)) := by rw [ex_6]; exact nI_add _ _
  clear ex_6
  refine lv_icmp_le (tgt := 42) hx hb d_W_pieceOf_24 (by decide) (fun c_7 => ?_) (fun c_7 => ?_)
  · have hle9 : q2_1 ≤ dgt (2 * k) + k := (nI_leI (by omega) (by omega)).mp c_7
    refine lv_aload_n hx hb d_W_pieceOf_42 rfl (lv_at hl 0 rfl) ?_
    refine va_get (D := (dC, dI)) (ci := 3) (v := .ref hrw) (C := R_W) (T := F_W) (N := 2) hx hb hw0 in_W hown hK hP 0 rfl rfl 0 (by decide) (hw0 (.fieldLink R_W 9 "TextKeeper$PieceWriter" "row" "[B") (List.mem_of_getElem? (i := 64) rfl)) (fun _ h9 => h9) rfl d_W_pieceOf_43 ?_
    refine lv_aload_n hx hb d_W_pieceOf_46 rfl (lv_at hl 0 rfl) ?_
    refine va_get (D := (dC, dI)) (ci := 3) (v := .int (nI q2_1)) (C := R_W) (T := F_W) (N := 2) hx hb hw0 in_W hown hK hP 0 rfl rfl 1 (by decide) (hw0 (.fieldLink R_W 15 "TextKeeper$PieceWriter" "length" "I") (List.mem_of_getElem? (i := 65) rfl)) (fun _ h9 => h9) rfl d_W_pieceOf_47 ?_
    have hPc := hP.sub (ws' := [(hrw, .inl (cR, 512, .inl ((g2_2))))]) [1] rfl
    have hKc := hK.sub (tys' := [(cR, .byte)]) [0] rfl
    have hDc := hD.sub (ws' := [(hrw, .inl (cR, 512, .inl ((g2_2))))]) [1] (by decide) rfl
    have hFc := va_free (wc := [(hrw, .inl (cR, 512, .inl ((g2_2))))]) hD hS hA [1] rfl
    refine va_callr (va_runS (As := [.ref hrw, .int (nI q2_1)]) (rest := []) ⟨hx, hb, hml, hown, hw0⟩ (g_copyOf l dC dI H.size hrw cR (g2_2) q2_1 _ (by first | assumption | decide | omega) (by first | assumption | decide | omega)) (va_cwS 2 hw0 (gd_S 152 153 154 155 rfl rfl rfl rfl) rfl rfl rfl (by decide +kernel) ⟨by decide +kernel, by decide +kernel⟩) (prS_E hPc hKc hDc hN) rfl rfl hl.1 rfl (lv_room (Nat.le_of_ble_eq_true rfl)) d_W_pieceOf_50 ⟨by decide +kernel, by decide +kernel⟩) hS (fun q _ h => hFc q h) hFc (fun u ra_8 t H1 locs ht hvm hw hB hz1 hk1 hS => ?_)
    obtain ⟨cP_9, f2_10, hu_11, hP1, hK1, hD1⟩ := hB
    rw [ht] at hP1
    have hK1 := va_K.moved hvm.symm hK1
    try dsimp only at hw
    obtain ⟨hP, hD⟩ := va_join (wr := [(h0, .inr (3, [.ref hrw, .int (nI q2_1)])), (h1, .inr (1, [.ref hy, .int (nI k)])), (hy, .inl (cB, 256, .inl ((f)))), (h2, .inr (1, [.ref hy2, .int (nI k2)])), (hy2, .inl (cB2, 256, .inl ((fo))))]) (w1 := [(hrw, .inl (cR, 512, .inl ((g2_2)))), (ra_8, .inl (cP_9, q2_1, .inl (f2_10)))]) hP hD [1] [0, 2, 3, 4, 5] rfl rfl (by decide) (by decide) hk1 hFc hP1 hD1
    have hK := hK.app (hK1.sub (tys' := [(cP_9, .byte)]) [1] rfl)
    generalize H1 = H at hP hS ⊢
    replace hP : va_P (dC, dI) vwCl [(h0, .inr (3, [.ref hrw, .int (nI q2_1)])), (h1, .inr (1, [.ref hy, .int (nI k)])), (hy, .inl (cB, 256, .inl ((f)))), (h2, .inr (1, [.ref hy2, .int (nI k2)])), (hy2, .inl (cB2, 256, .inl ((fo)))), (hrw, .inl (cR, 512, .inl ((g2_2)))), (ra_8, .inl (cP_9, q2_1, .inl (f2_10)))] H := hP
    replace hD : va_D A [(h0, .inr (3, [.ref hrw, .int (nI q2_1)])), (h1, .inr (1, [.ref hy, .int (nI k)])), (hy, .inl (cB, 256, .inl ((f)))), (h2, .inr (1, [.ref hy2, .int (nI k2)])), (hy2, .inl (cB2, 256, .inl ((fo)))), (hrw, .inl (cR, 512, .inl ((g2_2)))), (ra_8, .inl (cP_9, q2_1, .inl (f2_10)))] := hD
    replace hK : va_K (dC, dI) vwCl [(cR, .byte), (cB, .byte), (cB2, .byte), (cP_9, .byte)] s := hK
    refine W.widen (k := 1) (n := 258) (by decide +kernel) (by decide +kernel) ?_
    have hP9 := hP.sub (ws' := [(h0, .inr (3, [.ref hrw, .int (nI q2_1)])), (hrw, .inl (cR, 512, .inl ((g2_2)))), (h1, .inr (1, [.ref hy, .int (nI k)])), (hy, .inl (cB, 256, .inl (f))), (h2, .inr (1, [.ref hy2, .int (nI k2)])), (hy2, .inl (cB2, 256, .inl (fo))), (ra_8, .inl (cP_9, q2_1, .inl (f2_10)))]) [0, 5, 1, 2, 3, 4, 6] rfl
    have hD9 := hD.sub (ws' := [(h0, .inr (3, [.ref hrw, .int (nI q2_1)])), (hrw, .inl (cR, 512, .inl ((g2_2)))), (h1, .inr (1, [.ref hy, .int (nI k)])), (hy, .inl (cB, 256, .inl (f))), (h2, .inr (1, [.ref hy2, .int (nI k2)])), (hy2, .inl (cB2, 256, .inl (fo))), (ra_8, .inl (cP_9, q2_1, .inl (f2_10)))]) [0, 5, 1, 2, 3, 4, 6] (by decide) rfl
    have hK9 := hK.sub (tys' := [(cR, .byte), (cB, .byte), (cB2, .byte), (cP_9, .byte)]) [0, 1, 2, 3] rfl
    exact W.aret (v := .ref ra_8) hx hb hr (Or.inr ⟨_, rfl⟩) (Or.inr ⟨_, rfl⟩) (fun t ht hW => ⟨⟨(), ra_8, rfl, trivial, q2_1, (g2_2), q2_1, cP_9, f2_10, (x_pce1 htx.1 (by rw [hu_3_1.1]; exact hle9) hu_11), by rw [ht]; exact hP9, va_K.moved hW.alike hK9, hD9⟩, hS.F ht⟩) hS.2.2 d_W_pieceOf_53
  · have hgt9 : ¬ q2_1 ≤ dgt (2 * k) + k := fun z => c_7 ((nI_leI (by omega) (by omega)).mpr z); have hnil := tx_nil g2_2; have hdk0 := dgt_le (2 * (k - 0)); have hil := insE_len0 (L := L) (k := k) htx.1
    refine lv_aload_n hx hb d_W_pieceOf_27 rfl (lv_at hl 0 rfl) ?_
    refine lv_iconst (v := 0) hx hb d_W_pieceOf_28 (by decide) ?_
    refine va_put (D := (dC, dI)) (ci := 3) (v := .int 0) (ty := .int) (C := R_W) (T := F_W) (N := 2) hx hb hw0 in_W ft_W tk_W nk_W hown hK hP hD hS 0 rfl rfl 1 (by decide) (hw0 (.fieldLink R_W 15 "TextKeeper$PieceWriter" "length" "I") (List.mem_of_getElem? (i := 65) rfl)) (fun _ h9 => h9) rfl (by decide +kernel) rfl rfl (Nat.le_of_ble_eq_true rfl) d_W_pieceOf_29 (fun H locs hP hD hS => ?_)
    replace hP : va_P (dC, dI) vwCl [(h0, .inr (3, [.ref hrw, .int 0])), (hrw, .inl (cR, 512, .inl (g2_2))), (h1, .inr (1, [.ref hy, .int (nI k)])), (hy, .inl (cB, 256, .inl ((f)))), (h2, .inr (1, [.ref hy2, .int (nI k2)])), (hy2, .inl (cB2, 256, .inl ((fo))))] H := hP
    replace hD : va_D A [(h0, .inr (3, [.ref hrw, .int 0])), (hrw, .inl (cR, 512, .inl (g2_2))), (h1, .inr (1, [.ref hy, .int (nI k)])), (hy, .inl (cB, 256, .inl ((f)))), (h2, .inr (1, [.ref hy2, .int (nI k2)])), (hy2, .inl (cB2, 256, .inl ((fo))))] := hD
    refine lv_aload_n hx hb d_W_pieceOf_32 rfl (lv_at hl 0 rfl) ?_
    refine lv_aload_n hx hb d_W_pieceOf_33 rfl (lv_at hl 1 rfl) ?_
    refine lv_iconst (v := 0) hx hb d_W_pieceOf_34 (by decide) ?_
    refine lv_aload_n hx hb d_W_pieceOf_35 rfl (lv_at hl 1 rfl) ?_
    refine va_getN (D := (dC, dI)) (ci := 1) (v := .int (nI k)) (C := R_T) (T := F_T) (N := 2) hx hb hw0 in_T hown hK hP 2 rfl rfl 1 (by decide) (va_Nw.use rfl (hN.1 (.fieldLinkNest R_W 23 "TextKeeper$Text" "length" "I" "TextKeeper") (List.mem_of_getElem? (i := 0) rfl))) (fun _ h9 => h9) rfl d_W_pieceOf_36 ?_
    have hPc := hP.sub (ws' := [(h0, .inr (3, [.ref hrw, .int (nI 0)])), (hrw, .inl (cR, 512, .inl ((g2_2)))), (h1, .inr (1, [.ref hy, .int (nI k)])), (hy, .inl (cB, 256, .inl (((f)))))]) [0, 1, 2, 3] rfl
    have hKc := hK.sub (tys' := [(cR, .byte), (cB, .byte)]) [0, 1] rfl
    have hDc := hD.sub (ws' := [(h0, .inr (3, [.ref hrw, .int (nI 0)])), (hrw, .inl (cR, 512, .inl ((g2_2)))), (h1, .inr (1, [.ref hy, .int (nI k)])), (hy, .inl (cB, 256, .inl (((f)))))]) [0, 1, 2, 3] (by decide) rfl
    have hFc := va_free (wc := [(h0, .inr (3, [.ref hrw, .int (nI 0)])), (hrw, .inl (cR, 512, .inl ((g2_2)))), (h1, .inr (1, [.ref hy, .int (nI k)])), (hy, .inl (cB, 256, .inl (((f)))))]) hD hS hA [0, 1, 2, 3] rfl
    refine va_callv (va_runV (As := [.ref h1, .int 0, .int (nI k)]) (rest := []) ⟨hx, hb, hml, hown, hw0⟩ (g_writeInsert l dC dI H.size h0 hrw cR 0 (g2_2) _ h1 hy cB k ((f)) _ 0 k (by first | assumption | decide | omega) (by first | assumption | decide | omega) (by first | assumption | decide | omega) (by first | assumption | decide | omega) (by first | assumption | decide | omega) (by first | assumption | decide | omega)) (cwV 3 hw0 (gd_V 142 143 144 94 145 rfl rfl rfl rfl rfl) rfl rfl rfl (by decide +kernel) ⟨by decide +kernel, by decide +kernel⟩) (prV_E hPc hKc hDc hN (va_recv hKc hPc (ci := 3) (q0 := 0) rfl rfl)) rfl rfl hl.1 rfl (lv_room (Nat.le_of_ble_eq_true rfl)) d_W_pieceOf_39 ⟨by decide +kernel, by decide +kernel⟩) hS (fun q _ h => hFc q h) hFc (fun u t H1 locs ht hvm hw hB hz1 hk1 hS => ?_)
    obtain ⟨q2_12, g2_13, ⟨hu_14_0, hu_14_1⟩, hP1, hK1, hD1⟩ := hB
    rw [ht] at hP1
    have hK1 := va_K.moved hvm.symm hK1
    try dsimp only at hw
    obtain ⟨hP, hD⟩ := va_join (wr := [(h2, .inr (1, [.ref hy2, .int (nI k2)])), (hy2, .inl (cB2, 256, .inl ((fo))))]) (w1 := [(h0, .inr (3, [.ref hrw, .int (nI q2_12)])), (hrw, .inl (cR, 512, .inl (g2_13))), (h1, .inr (1, [.ref hy, .int (nI k)])), (hy, .inl (cB, 256, .inl (((f)))))]) hP hD [0, 1, 2, 3] [4, 5] rfl rfl (by decide) (by decide) hk1 hFc hP1 hD1
    generalize H1 = H at hP hS ⊢
    replace hP : va_P (dC, dI) vwCl [(h2, .inr (1, [.ref hy2, .int (nI k2)])), (hy2, .inl (cB2, 256, .inl ((fo)))), (h0, .inr (3, [.ref hrw, .int (nI q2_12)])), (hrw, .inl (cR, 512, .inl (g2_13))), (h1, .inr (1, [.ref hy, .int (nI k)])), (hy, .inl (cB, 256, .inl (((f)))))] H := hP
    replace hD : va_D A [(h2, .inr (1, [.ref hy2, .int (nI k2)])), (hy2, .inl (cB2, 256, .inl ((fo)))), (h0, .inr (3, [.ref hrw, .int (nI q2_12)])), (hrw, .inl (cR, 512, .inl (g2_13))), (h1, .inr (1, [.ref hy, .int (nI k)])), (hy, .inl (cB, 256, .inl (((f)))))] := hD
    replace hK : va_K (dC, dI) vwCl [(cR, .byte), (cB, .byte), (cB2, .byte)] s := hK
    refine lv_aload_n hx hb d_W_pieceOf_42 rfl (lv_at hl 0 rfl) ?_
    refine va_get (D := (dC, dI)) (ci := 3) (v := .ref hrw) (C := R_W) (T := F_W) (N := 2) hx hb hw0 in_W hown hK hP 2 rfl rfl 0 (by decide) (hw0 (.fieldLink R_W 9 "TextKeeper$PieceWriter" "row" "[B") (List.mem_of_getElem? (i := 64) rfl)) (fun _ h9 => h9) rfl d_W_pieceOf_43 ?_
    refine lv_aload_n hx hb d_W_pieceOf_46 rfl (lv_at hl 0 rfl) ?_
    refine va_get (D := (dC, dI)) (ci := 3) (v := .int (nI q2_12)) (C := R_W) (T := F_W) (N := 2) hx hb hw0 in_W hown hK hP 2 rfl rfl 1 (by decide) (hw0 (.fieldLink R_W 15 "TextKeeper$PieceWriter" "length" "I") (List.mem_of_getElem? (i := 65) rfl)) (fun _ h9 => h9) rfl d_W_pieceOf_47 ?_
    have hPc := hP.sub (ws' := [(hrw, .inl (cR, 512, .inl ((g2_13))))]) [3] rfl
    have hKc := hK.sub (tys' := [(cR, .byte)]) [0] rfl
    have hDc := hD.sub (ws' := [(hrw, .inl (cR, 512, .inl ((g2_13))))]) [3] (by decide) rfl
    have hFc := va_free (wc := [(hrw, .inl (cR, 512, .inl ((g2_13))))]) hD hS hA [3] rfl
    refine va_callr (va_runS (As := [.ref hrw, .int (nI q2_12)]) (rest := []) ⟨hx, hb, hml, hown, hw0⟩ (g_copyOf l dC dI H.size hrw cR (g2_13) q2_12 _ (by first | assumption | decide | omega) (by first | assumption | decide | omega)) (va_cwS 2 hw0 (gd_S 152 153 154 155 rfl rfl rfl rfl) rfl rfl rfl (by decide +kernel) ⟨by decide +kernel, by decide +kernel⟩) (prS_E hPc hKc hDc hN) rfl rfl hl.1 rfl (lv_room (Nat.le_of_ble_eq_true rfl)) d_W_pieceOf_50 ⟨by decide +kernel, by decide +kernel⟩) hS (fun q _ h => hFc q h) hFc (fun u ra_15 t H1 locs ht hvm hw hB hz1 hk1 hS => ?_)
    obtain ⟨cP_16, f2_17, hu_18, hP1, hK1, hD1⟩ := hB
    rw [ht] at hP1
    have hK1 := va_K.moved hvm.symm hK1
    try dsimp only at hw
    obtain ⟨hP, hD⟩ := va_join (wr := [(h2, .inr (1, [.ref hy2, .int (nI k2)])), (hy2, .inl (cB2, 256, .inl ((fo)))), (h0, .inr (3, [.ref hrw, .int (nI q2_12)])), (h1, .inr (1, [.ref hy, .int (nI k)])), (hy, .inl (cB, 256, .inl (((f)))))]) (w1 := [(hrw, .inl (cR, 512, .inl ((g2_13)))), (ra_15, .inl (cP_16, q2_12, .inl (f2_17)))]) hP hD [3] [0, 1, 2, 4, 5] rfl rfl (by decide) (by decide) hk1 hFc hP1 hD1
    have hK := hK.app (hK1.sub (tys' := [(cP_16, .byte)]) [1] rfl)
    generalize H1 = H at hP hS ⊢
    replace hP : va_P (dC, dI) vwCl [(h2, .inr (1, [.ref hy2, .int (nI k2)])), (hy2, .inl (cB2, 256, .inl ((fo)))), (h0, .inr (3, [.ref hrw, .int (nI q2_12)])), (h1, .inr (1, [.ref hy, .int (nI k)])), (hy, .inl (cB, 256, .inl (((f))))), (hrw, .inl (cR, 512, .inl ((g2_13)))), (ra_15, .inl (cP_16, q2_12, .inl (f2_17)))] H := hP
    replace hD : va_D A [(h2, .inr (1, [.ref hy2, .int (nI k2)])), (hy2, .inl (cB2, 256, .inl ((fo)))), (h0, .inr (3, [.ref hrw, .int (nI q2_12)])), (h1, .inr (1, [.ref hy, .int (nI k)])), (hy, .inl (cB, 256, .inl (((f))))), (hrw, .inl (cR, 512, .inl ((g2_13)))), (ra_15, .inl (cP_16, q2_12, .inl (f2_17)))] := hD
    replace hK : va_K (dC, dI) vwCl [(cR, .byte), (cB, .byte), (cB2, .byte), (cP_16, .byte)] s := hK
    refine W.widen (k := 1) (n := 258) (by decide +kernel) (by decide +kernel) ?_
    have hP9 := hP.sub (ws' := [(h0, .inr (3, [.ref hrw, .int (nI q2_12)])), (hrw, .inl (cR, 512, .inl ((g2_13)))), (h1, .inr (1, [.ref hy, .int (nI k)])), (hy, .inl (cB, 256, .inl (f))), (h2, .inr (1, [.ref hy2, .int (nI k2)])), (hy2, .inl (cB2, 256, .inl (fo))), (ra_15, .inl (cP_16, q2_12, .inl (f2_17)))]) [2, 5, 3, 4, 0, 1, 6] rfl
    have hD9 := hD.sub (ws' := [(h0, .inr (3, [.ref hrw, .int (nI q2_12)])), (hrw, .inl (cR, 512, .inl ((g2_13)))), (h1, .inr (1, [.ref hy, .int (nI k)])), (hy, .inl (cB, 256, .inl (f))), (h2, .inr (1, [.ref hy2, .int (nI k2)])), (hy2, .inl (cB2, 256, .inl (fo))), (ra_15, .inl (cP_16, q2_12, .inl (f2_17)))]) [2, 5, 3, 4, 0, 1, 6] (by decide) rfl
    have hK9 := hK.sub (tys' := [(cR, .byte), (cB, .byte), (cB2, .byte), (cP_16, .byte)]) [0, 1, 2, 3] rfl
    exact W.aret (v := .ref ra_15) hx hb hr (Or.inr ⟨_, rfl⟩) (Or.inr ⟨_, rfl⟩) (fun t ht hW => ⟨⟨(), ra_15, rfl, trivial, q2_12, (g2_13), q2_12, cP_16, f2_17, (x_pce2 htx.1 (by rw [hu_3_1.1]; exact hgt9) hu_18), by rw [ht]; exact hP9, va_K.moved hW.alike hK9, hD9⟩, hS.F ht⟩) hS.2.2 d_W_pieceOf_53
end
