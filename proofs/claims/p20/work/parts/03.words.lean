/-! the words that all contracts share, the nest mates' words, facts on the tables -/
def w0_0 : List Cond := [.laysFinal "TextKeeper" "TextKeeper" "documents" "[LTextKeeper$Document;",
  .laysFinal "TextKeeper" "TextKeeper" "buffer" "LTextKeeper$Text;",
  .laysFinal "TextKeeper" "TextKeeper" "fetched" "LTextKeeper$Text;",
  .laysFinal "TextKeeper" "TextKeeper" "compared" "LTextKeeper$Text;",
  .laysFinal "TextKeeper" "TextKeeper" "maker" "LTextKeeper$Maker;",
  .laysFinal "TextKeeper" "TextKeeper" "writer" "LTextKeeper$PieceWriter;",
  .laysFinal "TextKeeper" "TextKeeper" "power" "LTextKeeper$Power;",
  .lays "TextKeeper" "TextKeeper" "madeDocuments" "I",
  .lays "TextKeeper" "TextKeeper" "fetchedSteps" "I",
  .laysFinal "TextKeeper$Text" "TextKeeper$Text" "bytes" "[B",
  .lays "TextKeeper$Text" "TextKeeper$Text" "length" "I",
  .lays "TextKeeper$Maker" "TextKeeper$Maker" "base" "LTextKeeper$Text;",
  .lays "TextKeeper$Maker" "TextKeeper$Maker" "text" "LTextKeeper$Text;",
  .lays "TextKeeper$Maker" "TextKeeper$Maker" "piece" "[B",
  .lays "TextKeeper$Maker" "TextKeeper$Maker" "at" "I",
  .laysFinal "TextKeeper$PieceWriter" "TextKeeper$PieceWriter" "row" "[B",
  .lays "TextKeeper$PieceWriter" "TextKeeper$PieceWriter" "length" "I",
  .lays "TextKeeper$Power" "TextKeeper$Power" "down" "Z",
  .lays "TextKeeper$Power" "TextKeeper$Power" "going" "Z",
  .lays "TextKeeper$Power" "TextKeeper$Power" "writesLeft" "I",
  .laysFinal "TextKeeper$Document" "TextKeeper$Document" "revisions" "[LTextKeeper$Revision;",
  .lays "TextKeeper$Document" "TextKeeper$Document" "first" "I",
  .lays "TextKeeper$Document" "TextKeeper$Document" "count" "I",
  .laysFinal "TextKeeper$Revision" "TextKeeper$Revision" "piece" "[B",
  .laysFinal "TextKeeper$Revision" "TextKeeper$Revision" "author" "I",
  .laysFinal "TextKeeper$Revision" "TextKeeper$Revision" "sum" "I",
  .lays "TextKeeperModel" "TextKeeperModel" "thrown" "I",
  .lays "TextKeeperModel" "TextKeeperModel" "down" "Z",
  .lays "TextKeeperModel" "TextKeeperModel" "lasts" "I",
  .laysFinal "TextKeeperModel" "TextKeeperModel" "buffer" "[B",
  .lays "TextKeeperModel" "TextKeeperModel" "size" "I",
  .lays "TextKeeperModel" "TextKeeperModel" "documents" "I",
  .laysFinal "TextKeeperModel" "TextKeeperModel" "gone" "[Z",
  .laysFinal "TextKeeperModel" "TextKeeperModel" "first" "[I",
  .laysFinal "TextKeeperModel" "TextKeeperModel" "many" "[I",
  .laysFinal "TextKeeperModel" "TextKeeperModel" "lengths" "[S",
  .laysFinal "TextKeeperModel" "TextKeeperModel" "authors" "[I",
  .laysFinal "TextKeeperModel" "TextKeeperModel" "sums" "[I",
  .laysFinal "TextKeeperModel" "TextKeeperModel" "row" "[B",
  .lays "TextKeeperModel" "TextKeeperModel" "made" "[B"]
def w0_1 : List Cond := [.lays "TextKeeperModel" "TextKeeperModel" "madeSize" "I",
  .lays "TextKeeperModel" "TextKeeperModel" "base" "[B",
  .lays "TextKeeperModel" "TextKeeperModel" "baseSize" "I",
  .laysFinal "TextKeeperModel" "TextKeeperModel" "text" "[B",
  .lays "TextKeeperModel" "TextKeeperModel" "textSize" "I",
  .lays "TextKeeperModel" "TextKeeperModel" "textSteps" "I",
  .laysFinal "TextKeeperModel" "TextKeeperModel" "other" "[B",
  .lays "TextKeeperModel" "TextKeeperModel" "otherSize" "I",
  .laysFinal "TextKeeperModel" "TextKeeperModel" "piece" "[B",
  .lays "TextKeeperModel" "TextKeeperModel" "pieceSize" "I",
  .lays "TextKeeperModel" "TextKeeperModel" "at" "I",
  .lays "TextKeeperModel" "TextKeeperModel" "end" "I",
  .lays "TextKeeperModel" "TextKeeperModel" "value" "I",
  .methodLink R_P 1 objectInit,
  .instanceMethod objectInit,
  .code objectInit ⟨#[0xb1]⟩ 1 none,
  .fieldLink R_P 7 "TextKeeper$Power" "down" "Z",
  .fieldLink R_P 13 "TextKeeper$Power" "going" "Z",
  .fieldLink R_P 16 "TextKeeper$Power" "writesLeft" "I",
  .methodLink R_T 3 objectInit,
  .arrayClass .byte,
  .fieldLink R_T 9 "TextKeeper$Text" "bytes" "[B",
  .fieldLink R_T 15 "TextKeeper$Text" "length" "I",
  .methodLink R_W 3 objectInit,
  .fieldLink R_W 9 "TextKeeper$PieceWriter" "row" "[B",
  .fieldLink R_W 15 "TextKeeper$PieceWriter" "length" "I",
  .methodLink R_M 3 objectInit,
  .classLink R_M 9 R_T,
  .instantiable R_T 2,
  .initialized R_T,
  .code y_T_init prog_7_method_1_code 1 none,
  .methodLink R_M 11 y_T_init,
  .instanceMethod y_T_init,
  .fieldLink R_M 12 "TextKeeper$Maker" "base" "LTextKeeper$Text;",
  .fieldLink R_M 18 "TextKeeper$Maker" "text" "LTextKeeper$Text;",
  .fieldLink R_M 21 "TextKeeper$Maker" "piece" "[B",
  .fieldLink R_M 25 "TextKeeper$Maker" "at" "I",
  .methodLink R_K 1 objectInit,
  .classLink R_K 9 R_D,
  .fieldLink R_K 11 "TextKeeper" "documents" "[LTextKeeper$Document;"]
def w0_2 : List Cond := [.classLink R_K 15 R_T,
  .methodLink R_K 17 y_T_init,
  .fieldLink R_K 18 "TextKeeper" "buffer" "LTextKeeper$Text;",
  .fieldLink R_K 22 "TextKeeper" "fetched" "LTextKeeper$Text;",
  .fieldLink R_K 25 "TextKeeper" "compared" "LTextKeeper$Text;",
  .classLink R_K 28 R_M,
  .instantiable R_M 4,
  .initialized R_M,
  .code y_M_init prog_3_method_1_code 1 none,
  .methodLink R_K 30 y_M_init,
  .instanceMethod y_M_init,
  .fieldLink R_K 31 "TextKeeper" "maker" "LTextKeeper$Maker;",
  .classLink R_K 35 R_W,
  .instantiable R_W 2,
  .initialized R_W,
  .code y_W_init prog_4_method_1_code 1 none,
  .methodLink R_K 37 y_W_init,
  .instanceMethod y_W_init,
  .fieldLink R_K 38 "TextKeeper" "writer" "LTextKeeper$PieceWriter;",
  .classLink R_K 42 R_P,
  .instantiable R_P 3,
  .initialized R_P,
  .code y_P_init prog_5_method_1_code 1 none,
  .methodLink R_K 44 y_P_init,
  .instanceMethod y_P_init,
  .fieldLink R_K 45 "TextKeeper" "power" "LTextKeeper$Power;",
  .fieldLink R_K 49 "TextKeeper" "madeDocuments" "I",
  .fieldLink R_K 53 "TextKeeper" "fetchedSteps" "I",
  .methodLink R_T 19 y_T_addByte,
  .instanceMethod y_T_addByte,
  .selects R_T y_T_addByte y_T_addByte,
  .code y_T_addByte prog_7_method_4_code 2 none,
  .methodLink R_T 23 ⟨"java/lang/System","arraycopy","(Ljava/lang/Object;ILjava/lang/Object;II)V"⟩,
  .native ⟨"java/lang/System","arraycopy","(Ljava/lang/Object;ILjava/lang/Object;II)V"⟩,
  .static ⟨"java/lang/System","arraycopy","(Ljava/lang/Object;ILjava/lang/Object;II)V"⟩,
  .initialized "java/lang/System",
  .code ⟨"java/lang/Math","min","(II)I"⟩ prog_15_method_69_code 2 (Option.some .int),
  .methodLink R_T 29 ⟨"java/lang/Math","min","(II)I"⟩,
  .static ⟨"java/lang/Math","min","(II)I"⟩,
  .initialized "java/lang/Math"]
def w0_3 : List Cond := [.methodLink R_W 26 y_W_digitsOf,
  .static y_W_digitsOf,
  .code y_W_digitsOf prog_4_method_7_code 3 (some .int),
  .methodLink R_W 55 y_W_writeByte,
  .instanceMethod y_W_writeByte,
  .selects R_W y_W_writeByte y_W_writeByte,
  .code y_W_writeByte prog_4_method_8_code 2 none,
  .methodLink R_W 52 y_T_byteAt,
  .instanceMethod y_T_byteAt,
  .selects R_T y_T_byteAt y_T_byteAt,
  .code y_T_byteAt prog_7_method_2_code 2 (some .int),
  .methodLink R_W 48 y_W_writeNumber,
  .instanceMethod y_W_writeNumber,
  .selects R_W y_W_writeNumber y_W_writeNumber,
  .code y_W_writeNumber prog_4_method_6_code 4 none,
  .methodLink R_W 44 y_T_runWith,
  .instanceMethod y_T_runWith,
  .selects R_T y_T_runWith y_T_runWith,
  .code y_T_runWith prog_7_method_9_code 6 (some .int),
  .methodLink R_W 40 y_W_placeOfLongest,
  .static y_W_placeOfLongest,
  .code y_W_placeOfLongest prog_4_method_4_code 7 (some .int),
  .methodLink R_W 30 y_W_writeInsert,
  .instanceMethod y_W_writeInsert,
  .selects R_W y_W_writeInsert y_W_writeInsert,
  .code y_W_writeInsert prog_4_method_5_code 5 none,
  .methodLink R_A 304 ⟨"java/lang/Math","min","(II)I"⟩,
  .methodLink R_A 150 ⟨"java/lang/System","arraycopy","(Ljava/lang/Object;ILjava/lang/Object;II)V"⟩,
  .methodLink R_W 19 y_W_writeDifferences,
  .instanceMethod y_W_writeDifferences,
  .selects R_W y_W_writeDifferences y_W_writeDifferences,
  .code y_W_writeDifferences prog_4_method_3_code 7 none,
  .methodLink R_W 34 y_A_copyOf,
  .static y_A_copyOf,
  .initialized R_A,
  .code y_A_copyOf prog_19_method_121_code 3 (some (.array .byte)),
  .fieldLink R_O 59 "TextKeeperModel" "piece" "[B",
  .fieldLink R_O 125 "TextKeeperModel" "pieceSize" "I",
  .methodLink R_O 128 y_O_put,
  .instanceMethod y_O_put]
def w0_4 : List Cond := [.selects R_O y_O_put y_O_put,
  .initialized R_O,
  .code y_O_put prog_9_method_21_code 2 none,
  .fieldLink R_O 69 "TextKeeperModel" "size" "I",
  .fieldLink R_O 113 "TextKeeperModel" "madeSize" "I",
  .fieldLink R_O 13 "TextKeeperModel" "buffer" "[B",
  .fieldLink R_O 41 "TextKeeperModel" "made" "[B",
  .methodLink R_O 131 y_O_putNumber,
  .instanceMethod y_O_putNumber,
  .selects R_O y_O_putNumber y_O_putNumber,
  .code y_O_putNumber prog_9_method_22_code 3 none,
  .methodLink R_O 134 y_O_run,
  .instanceMethod y_O_run,
  .selects R_O y_O_run y_O_run,
  .code y_O_run prog_9_method_24_code 4 (some .int),
  .methodLink R_O 138 y_O_inserts,
  .instanceMethod y_O_inserts,
  .selects R_O y_O_inserts y_O_inserts,
  .code y_O_inserts prog_9_method_23_code 4 none,
  .fieldLink R_O 100 "TextKeeperModel" "value" "I",
  .fieldLink R_O 103 "TextKeeperModel" "at" "I",
  .fieldLink R_O 106 "TextKeeperModel" "end" "I",
  .fieldLink R_O 38 "TextKeeperModel" "row" "[B",
  .methodLink R_M 71 y_T_addByte,
  .methodLink R_M 78 y_T_byteAt,
  .methodLink R_M 58 y_M_readNumber,
  .instanceMethod y_M_readNumber,
  .selects R_M y_M_readNumber y_M_readNumber,
  .code y_M_readNumber prog_3_method_8_code 4 (some .int),
  .methodLink R_M 62 y_T_hasRoom,
  .instanceMethod y_T_hasRoom,
  .selects R_T y_T_hasRoom y_T_hasRoom,
  .code y_T_hasRoom prog_7_method_3_code 2 (some .boolean),
  .methodLink R_M 68 y_M_copy,
  .instanceMethod y_M_copy,
  .selects R_M y_M_copy y_M_copy,
  .code y_M_copy prog_3_method_7_code 4 (some .boolean),
  .methodLink R_M 65 y_M_insert,
  .instanceMethod y_M_insert,
  .selects R_M y_M_insert y_M_insert]
def w0_5 : List Cond := [.code y_M_insert prog_3_method_6_code 3 (some .boolean),
  .fieldLink R_O 44 "TextKeeperModel" "base" "[B",
  .methodLink R_O 109 y_O_number,
  .instanceMethod y_O_number,
  .selects R_O y_O_number y_O_number,
  .code y_O_number prog_9_method_17_code 3 (some .boolean),
  .fieldLink R_O 116 "TextKeeperModel" "baseSize" "I",
  .fieldLink R_O 28 "TextKeeperModel" "lengths" "[S",
  .methodLink R_O 119 y_O_command,
  .instanceMethod y_O_command,
  .selects R_O y_O_command y_O_command,
  .code y_O_command prog_9_method_18_code 5 (some .boolean),
  .methodLink R_M 54 y_M_obeyCommand,
  .instanceMethod y_M_obeyCommand,
  .selects R_M y_M_obeyCommand y_M_obeyCommand,
  .code y_M_obeyCommand prog_3_method_5_code 3 (some .boolean),
  .methodLink R_V 1 objectInit,
  .fieldLink R_V 7 "TextKeeper$Revision" "piece" "[B",
  .fieldLink R_V 13 "TextKeeper$Revision" "author" "I",
  .fieldLink R_V 17 "TextKeeper$Revision" "sum" "I",
  .methodLink R_D 3 objectInit,
  .classLink R_D 9 R_V,
  .fieldLink R_D 11 "TextKeeper$Document" "revisions" "[LTextKeeper$Revision;",
  .fieldLink R_D 17 "TextKeeper$Document" "first" "I",
  .fieldLink R_D 21 "TextKeeper$Document" "count" "I",
  .code y_K_baseOf prog_1_method_28_code 1 (some .int),
  .initialized R_K,
  .static y_K_baseOf,
  .code y_K_blocksFor prog_1_method_27_code 1 (some .int),
  .static y_K_blocksFor,
  .methodLink R_M 45 y_D_keptAt,
  .instanceMethod y_D_keptAt,
  .selects R_D y_D_keptAt y_D_keptAt,
  .initialized R_D,
  .code y_D_keptAt prog_2_method_5_code 2 (some (.object "TextKeeper$Revision")),
  .methodLink R_M 29 y_T_shorten,
  .instanceMethod y_T_shorten,
  .selects R_T y_T_shorten y_T_shorten,
  .code y_T_shorten prog_7_method_6_code 2 (some .boolean),
  .methodLink R_M 41 y_M_makeNext]
def w0_6 : List Cond := [.instanceMethod y_M_makeNext,
  .selects R_M y_M_makeNext y_M_makeNext,
  .code y_M_makeNext prog_3_method_4_code 7 (some .boolean),
  .methodLink R_M 37 y_M_makeAgain,
  .instanceMethod y_M_makeAgain,
  .selects R_M y_M_makeAgain y_M_makeAgain,
  .code y_M_makeAgain prog_3_method_3_code 6 (some (.object "TextKeeper$Text")),
  .fieldLink R_O 65 "TextKeeperModel" "down" "Z",
  .fieldLink R_O 62 "TextKeeperModel" "thrown" "I",
  .fieldLink R_O 9 "TextKeeperModel" "lasts" "I",
  .fieldLink R_O 76 "TextKeeperModel" "documents" "I",
  .fieldLink R_O 17 "TextKeeperModel" "gone" "[Z",
  .methodLink R_O 79 y_O_isDocument,
  .instanceMethod y_O_isDocument,
  .selects R_O y_O_isDocument y_O_isDocument,
  .code y_O_isDocument prog_9_method_7_code 2 (some .boolean),
  .fieldLink R_O 21 "TextKeeperModel" "first" "[I",
  .fieldLink R_O 25 "TextKeeperModel" "many" "[I",
  .methodLink R_O 82 y_O_blocks,
  .static y_O_blocks,
  .code y_O_blocks prog_9_method_11_code 1 (some .int),
  .methodLink R_O 86 y_O_begins,
  .instanceMethod y_O_begins,
  .selects R_O y_O_begins y_O_begins,
  .code y_O_begins prog_9_method_10_code 4 (some .int),
  .methodLink R_O 122 y_O_makes,
  .instanceMethod y_O_makes,
  .selects R_O y_O_makes y_O_makes,
  .code y_O_makes prog_9_method_19_code 3 (some .boolean),
  .methodLink R_O 89 y_O_isUnder,
  .static y_O_isUnder,
  .code y_O_isUnder prog_9_method_14_code 3 (some .boolean),
  .methodLink R_O 93 y_O_drop,
  .instanceMethod y_O_drop,
  .selects R_O y_O_drop y_O_drop,
  .code y_O_drop prog_9_method_13_code 5 none,
  .methodLink R_O 72 y_O_runs,
  .instanceMethod y_O_runs,
  .selects R_O y_O_runs y_O_runs,
  .code y_O_runs prog_9_method_3_code 2 (some .boolean)]
def w0_7 : List Cond := [.fieldLink R_O 53 "TextKeeperModel" "textSteps" "I",
  .fieldLink R_O 50 "TextKeeperModel" "textSize" "I",
  .fieldLink R_O 47 "TextKeeperModel" "text" "[B",
  .methodLink R_O 148 y_O_free,
  .instanceMethod y_O_free,
  .selects R_O y_O_free y_O_free,
  .code y_O_free prog_9_method_12_code 3 (some .int),
  .methodLink R_O 97 y_O_writes,
  .instanceMethod y_O_writes,
  .selects R_O y_O_writes y_O_writes,
  .code y_O_writes prog_9_method_4_code 2 (some .boolean),
  .methodLink R_O 156 y_O_isAsked,
  .instanceMethod y_O_isAsked,
  .selects R_O y_O_isAsked y_O_isAsked,
  .code y_O_isAsked prog_9_method_8_code 3 (some .boolean),
  .methodLink R_O 159 y_O_cleans,
  .instanceMethod y_O_cleans,
  .selects R_O y_O_cleans y_O_cleans,
  .code y_O_cleans prog_9_method_15_code 5 none,
  .methodLink R_O 162 y_O_kept,
  .instanceMethod y_O_kept,
  .selects R_O y_O_kept y_O_kept,
  .code y_O_kept prog_9_method_9_code 3 (some .int),
  .methodLink R_O 142 y_O_again,
  .instanceMethod y_O_again,
  .selects R_O y_O_again y_O_again,
  .code y_O_again prog_9_method_20_code 5 (some .boolean),
  .methodLink R_O 145 y_O_pieces,
  .instanceMethod y_O_pieces,
  .selects R_O y_O_pieces y_O_pieces,
  .code y_O_pieces prog_9_method_25_code 7 none,
  .fieldLink R_O 32 "TextKeeperModel" "authors" "[I",
  .fieldLink R_O 35 "TextKeeperModel" "sums" "[I",
  .methodLink R_O 152 y_O_sum,
  .instanceMethod y_O_sum,
  .selects R_O y_O_sum y_O_sum,
  .code y_O_sum prog_9_method_26_code 5 (some .int),
  .methodLink R_K 74 y_K_documentAt,
  .instanceMethod y_K_documentAt,
  .selects R_K y_K_documentAt y_K_documentAt]
def w0_8 : List Cond := [.code y_K_documentAt prog_1_method_23_code 2 (some (.object "TextKeeper$Document")),
  .methodLink R_K 193 y_D_keptAt,
  .methodLink R_K 56 y_K_needPower,
  .instanceMethod y_K_needPower,
  .selects R_K y_K_needPower y_K_needPower,
  .code y_K_needPower prog_1_method_21_code 1 none,
  .methodLink R_K 59 y_T_hasRoom,
  .methodLink R_K 63 y_T_addInt,
  .instanceMethod y_T_addInt,
  .selects R_T y_T_addInt y_T_addInt,
  .code y_T_addInt prog_7_method_5_code 3 none,
  .methodLink R_K 67 y_T_shorten,
  .methodLink R_K 134 y_T_byteAt,
  .methodLink R_K 177 y_P_goAfter,
  .instanceMethod y_P_goAfter,
  .selects R_P y_P_goAfter y_P_goAfter,
  .code y_P_goAfter prog_5_method_2_code 2 none,
  .methodLink R_K 184 y_P_comeBack,
  .instanceMethod y_P_comeBack,
  .selects R_P y_P_comeBack y_P_comeBack,
  .code y_P_comeBack prog_5_method_3_code 1 none,
  .methodLink R_K 190 y_P_lastsFor,
  .instanceMethod y_P_lastsFor,
  .selects R_P y_P_lastsFor y_P_lastsFor,
  .code y_P_lastsFor prog_5_method_4_code 2 (some .boolean),
  .methodLink R_K 149 y_K_keptRevision,
  .instanceMethod y_K_keptRevision,
  .selects R_K y_K_keptRevision y_K_keptRevision,
  .code y_K_keptRevision prog_1_method_24_code 4 (some (.object "TextKeeper$Revision")),
  .methodLink R_K 162 y_V_hasByte,
  .instanceMethod y_V_hasByte,
  .selects R_V y_V_hasByte y_V_hasByte,
  .initialized R_V,
  .code y_V_hasByte prog_6_method_2_code 2 (some .boolean),
  .methodLink R_K 70 y_K_spendWrites,
  .instanceMethod y_K_spendWrites,
  .selects R_K y_K_spendWrites y_K_spendWrites,
  .code y_K_spendWrites prog_1_method_22_code 2 none,
  .instantiable R_D 3,
  .code y_D_init prog_2_method_1_code 1 none]
def w0_9 : List Cond := [.methodLink R_K 73 y_D_init,
  .instanceMethod y_D_init,
  .methodLink R_K 197 y_D_countBlocks,
  .instanceMethod y_D_countBlocks,
  .selects R_D y_D_countBlocks y_D_countBlocks,
  .code y_D_countBlocks prog_2_method_8_code 3 (some .int),
  .methodLink R_K 97 y_K_countFree,
  .instanceMethod y_K_countFree,
  .selects R_K y_K_countFree y_K_countFree,
  .code y_K_countFree prog_1_method_26_code 6 (some .int),
  .methodLink R_K 116 y_D_canBeAsked,
  .instanceMethod y_D_canBeAsked,
  .selects R_D y_D_canBeAsked y_D_canBeAsked,
  .code y_D_canBeAsked prog_2_method_4_code 2 (some .boolean),
  .methodLink R_K 137 y_D_cutBefore,
  .instanceMethod y_D_cutBefore,
  .selects R_D y_D_cutBefore y_D_cutBefore,
  .code y_D_cutBefore prog_2_method_7_code 4 none,
  .methodLink R_K 78 y_D_isFull,
  .instanceMethod y_D_isFull,
  .selects R_D y_D_isFull y_D_isFull,
  .code y_D_isFull prog_2_method_2_code 1 (some .boolean),
  .methodLink R_K 85 y_M_makeBase,
  .instanceMethod y_M_makeBase,
  .selects R_M y_M_makeBase y_M_makeBase,
  .code y_M_makeBase prog_3_method_2_code 3 (some (.object "TextKeeper$Text")),
  .methodLink R_K 89 y_W_pieceOf,
  .instanceMethod y_W_pieceOf,
  .selects R_W y_W_pieceOf y_W_pieceOf,
  .code y_W_pieceOf prog_4_method_2_code 3 (some (.array .byte)),
  .methodLink R_K 93 y_K_blocksFor,
  .classLink R_K 101 R_V,
  .instantiable R_V 3,
  .methodLink R_K 103 y_T_sum,
  .instanceMethod y_T_sum,
  .selects R_T y_T_sum y_T_sum,
  .code y_T_sum prog_7_method_8_code 3 (some .int),
  .code y_V_init prog_6_method_1_code 4 none,
  .methodLink R_K 106 y_V_init,
  .instanceMethod y_V_init]
def w0_10 : List Cond := [.methodLink R_K 109 y_D_add,
  .instanceMethod y_D_add,
  .selects R_D y_D_add y_D_add,
  .code y_D_add prog_2_method_6_code 2 none,
  .methodLink R_K 113 y_D_newest,
  .instanceMethod y_D_newest,
  .selects R_D y_D_newest y_D_newest,
  .code y_D_newest prog_2_method_3_code 1 (some .int),
  .methodLink R_O 1 objectInit,
  .arrayClass .boolean,
  .arrayClass .int,
  .arrayClass .short,
  .fieldLink R_O 56 "TextKeeperModel" "other" "[B"]
def w0 : List Cond := w0_0 ++ (w0_1 ++ (w0_2 ++ (w0_3 ++ (w0_4 ++ (w0_5 ++ (w0_6 ++ (w0_7 ++ (w0_8 ++ (w0_9 ++ (w0_10))))))))))
def nw0 : List Cond := [.fieldLinkNest R_W 23 "TextKeeper$Text" "length" "I" "TextKeeper",
  .fieldLinkNest R_M 75 "TextKeeper$Text" "length" "I" "TextKeeper",
  .methodLinkNest R_D 24 y_K_baseOf "TextKeeper",
  .fieldLinkNest R_D 28 "TextKeeper$Revision" "piece" "[B" "TextKeeper",
  .methodLinkNest R_D 32 y_K_blocksFor "TextKeeper",
  .fieldLinkNest R_M 51 "TextKeeper$Revision" "piece" "[B" "TextKeeper",
  .methodLinkNest R_M 33 y_K_baseOf "TextKeeper",
  .fieldLinkNest R_K 180 "TextKeeper$Power" "down" "Z" "TextKeeper",
  .fieldLinkNest R_K 153 "TextKeeper$Revision" "piece" "[B" "TextKeeper",
  .fieldLinkNest R_K 82 "TextKeeper$Document" "count" "I" "TextKeeper"]
def ao0 : List String := ["TextKeeper$Document", "TextKeeper$Revision"]
def nw_kind : Cond → Bool
  | .fieldLinkNest .. => true
  | .methodLinkNest .. => true
  | .declares .. => true
  | .castable .. => true
  | _ => false
theorem nw0_kind : ∀ w ∈ nw0, nw_kind w = true := by decide +kernel
theorem nw0_tab : ∀ w ∈ nw0, w.onTables = true := by decide +kernel
theorem gd_places {big : List Cond} (ws : List Cond) (ps : List Nat) (hp : ws = ps.filterMap (fun i => big[i]?)) (h : ws.all goodWord = true) : GoodIn big ws := by
  intro w hw
  have h1 := List.all_eq_true.mp h w hw
  rw [hp] at hw
  obtain ⟨i, -, hi⟩ := List.mem_filterMap.mp hw
  exact ⟨List.mem_of_getElem? hi, good_of_word h1⟩
theorem gd_both {big a b : List Cond} (ha : GoodIn big a) (hb : GoodIn big b) : GoodIn big (a ++ b) := fun w h => (List.mem_append.mp h).elim (ha w) (hb w)
set_option maxRecDepth 100000 in
set_option maxHeartbeats 4000000 in
theorem w0_ok_0 : GoodIn lw_tbl w0_0 := gd_places _ [141, 143, 145, 147, 149, 151, 153, 155, 157, 75, 77, 93, 95, 97, 99, 110, 112, 125, 127, 129, 297, 299, 301, 439, 441, 443, 654, 656, 658, 660, 662, 664, 666, 668, 670, 672, 674, 676, 678, 680] rfl (by decide +kernel)
set_option maxRecDepth 100000 in
set_option maxHeartbeats 4000000 in
theorem w0_ok_1 : GoodIn lw_tbl w0_1 := gd_places _ [682, 684, 686, 688, 690, 692, 694, 696, 698, 700, 702, 704, 706, 120, 60, 61, 121, 123, 124, 69, 80, 70, 71, 107, 108, 109, 86, 87, 65, 37, 68, 88, 67, 89, 90, 91, 92, 59, 62, 132] rfl (by decide +kernel)
set_option maxRecDepth 100000 in
set_option maxHeartbeats 4000000 in
theorem w0_ok_2 : GoodIn lw_tbl w0_2 := gd_places _ [64, 66, 133, 134, 135, 81, 82, 38, 85, 83, 84, 136, 102, 103, 39, 106, 104, 105, 137, 115, 116, 40, 119, 117, 118, 138, 139, 140, 255, 256, 257, 258, 470, 408, 407, 49, 378, 376, 377, 47] rfl (by decide +kernel)
set_option maxRecDepth 100000 in
set_option maxHeartbeats 4000000 in
theorem w0_ok_3 : GoodIn lw_tbl w0_3 := gd_places _ [387, 388, 389, 390, 392, 12, 393, 394, 358, 359, 360, 383, 385, 11, 386, 372, 373, 374, 375, 369, 370, 371, 379, 381, 10, 382, 405, 406, 365, 367, 9, 368, 395, 396, 48, 397, 649, 650, 776, 778] rfl (by decide +kernel)
set_option maxRecDepth 100000 in
set_option maxHeartbeats 4000000 in
theorem w0_ok_4 : GoodIn lw_tbl w0_4 := gd_places _ [28, 41, 779, 631, 641, 630, 640, 772, 774, 27, 775, 764, 766, 25, 767, 768, 770, 26, 771, 653, 651, 652, 639, 352, 357, 343, 345, 6, 346, 347, 248, 249, 250, 353, 355, 8, 356, 348, 350, 7] rfl (by decide +kernel)
set_option maxRecDepth 100000 in
set_option maxHeartbeats 4000000 in
theorem w0_ok_5 : GoodIn lw_tbl w0_5 := gd_places _ [351, 642, 756, 758, 23, 759, 643, 636, 752, 754, 22, 755, 339, 341, 5, 342, 430, 431, 435, 437, 289, 290, 292, 293, 295, 326, 36, 325, 411, 410, 335, 336, 337, 46, 338, 323, 267, 268, 269, 331] rfl (by decide +kernel)
set_option maxRecDepth 100000 in
set_option maxHeartbeats 4000000 in
theorem w0_ok_6 : GoodIn lw_tbl w0_6 := gd_places _ [333, 4, 334, 327, 328, 329, 330, 628, 627, 629, 632, 633, 736, 738, 18, 739, 634, 635, 780, 781, 782, 748, 750, 21, 751, 744, 746, 20, 747, 815, 816, 817, 818, 820, 33, 821, 716, 718, 16, 719] rfl (by decide +kernel)
set_option maxRecDepth 100000 in
set_option maxHeartbeats 4000000 in
theorem w0_ok_7 : GoodIn lw_tbl w0_7 := gd_places _ [646, 645, 644, 783, 785, 29, 786, 728, 730, 17, 731, 795, 797, 31, 798, 811, 813, 32, 814, 834, 836, 34, 837, 740, 742, 19, 743, 760, 762, 24, 763, 637, 638, 787, 789, 30, 790, 311, 313, 3] rfl (by decide +kernel)
set_option maxRecDepth 100000 in
set_option maxHeartbeats 4000000 in
theorem w0_ok_8 : GoodIn lw_tbl w0_8 := gd_places _ [314, 561, 180, 182, 0, 183, 247, 251, 252, 253, 254, 266, 484, 617, 618, 619, 620, 164, 165, 166, 167, 281, 282, 283, 284, 557, 559, 14, 560, 569, 570, 571, 50, 572, 277, 279, 2, 280, 285, 288] rfl (by decide +kernel)
set_option maxRecDepth 100000 in
set_option maxHeartbeats 4000000 in
theorem w0_ok_9 : GoodIn lw_tbl w0_9 := gd_places _ [286, 287, 416, 417, 418, 419, 412, 414, 13, 415, 461, 462, 463, 464, 499, 500, 501, 502, 315, 316, 317, 318, 319, 320, 321, 322, 361, 362, 363, 364, 409, 421, 422, 423, 424, 425, 426, 429, 427, 428] rfl (by decide +kernel)
set_option maxRecDepth 100000 in
set_option maxHeartbeats 4000000 in
theorem w0_ok_10 : GoodIn lw_tbl w0_10 := gd_places _ [446, 447, 448, 449, 450, 451, 452, 453, 626, 709, 710, 711, 647] rfl (by decide +kernel)
theorem w0_ok : GoodIn lw_tbl w0 := gd_both w0_ok_0 (gd_both w0_ok_1 (gd_both w0_ok_2 (gd_both w0_ok_3 (gd_both w0_ok_4 (gd_both w0_ok_5 (gd_both w0_ok_6 (gd_both w0_ok_7 (gd_both w0_ok_8 (gd_both w0_ok_9 (w0_ok_10))))))))))
theorem w0_good (w : Cond) (h : w ∈ w0) : (w.onTables && w.keeps) = true ∨ ∃ ty, w = .arrayClass ty := (w0_ok w h).2
set_option maxRecDepth 100000 in
theorem in_K : ∀ w ∈ u_ws R_K F_K 9, w ∈ w0 := by decide +kernel
theorem tk_K : ∀ k, k < 9 → parseFieldDescriptor (F_K k).2.2.1 = some (ft_K k) := by decide +kernel
theorem nk_K : ∀ a, a < 9 → ∀ b, b < 9 → a ≠ b → (F_K a).2.1 ≠ (F_K b).2.1 := by decide +kernel
theorem nw_K : ∀ j, j < 9 → defaultValue (ft_K j) = vp_V [.null, .null, .null, .null, .null, .null, .null, .int 0, .int 0] j := by decide +kernel
set_option maxRecDepth 100000 in
theorem in_T : ∀ w ∈ u_ws R_T F_T 2, w ∈ w0 := by decide +kernel
theorem tk_T : ∀ k, k < 2 → parseFieldDescriptor (F_T k).2.2.1 = some (ft_T k) := by decide +kernel
theorem nk_T : ∀ a, a < 2 → ∀ b, b < 2 → a ≠ b → (F_T a).2.1 ≠ (F_T b).2.1 := by decide +kernel
theorem nw_T : ∀ j, j < 2 → defaultValue (ft_T j) = vp_V [.null, .int 0] j := by decide +kernel
set_option maxRecDepth 100000 in
theorem in_M : ∀ w ∈ u_ws R_M F_M 4, w ∈ w0 := by decide +kernel
theorem tk_M : ∀ k, k < 4 → parseFieldDescriptor (F_M k).2.2.1 = some (ft_M k) := by decide +kernel
theorem nk_M : ∀ a, a < 4 → ∀ b, b < 4 → a ≠ b → (F_M a).2.1 ≠ (F_M b).2.1 := by decide +kernel
theorem nw_M : ∀ j, j < 4 → defaultValue (ft_M j) = vp_V [.null, .null, .null, .int 0] j := by decide +kernel
set_option maxRecDepth 100000 in
theorem in_W : ∀ w ∈ u_ws R_W F_W 2, w ∈ w0 := by decide +kernel
theorem tk_W : ∀ k, k < 2 → parseFieldDescriptor (F_W k).2.2.1 = some (ft_W k) := by decide +kernel
theorem nk_W : ∀ a, a < 2 → ∀ b, b < 2 → a ≠ b → (F_W a).2.1 ≠ (F_W b).2.1 := by decide +kernel
theorem nw_W : ∀ j, j < 2 → defaultValue (ft_W j) = vp_V [.null, .int 0] j := by decide +kernel
set_option maxRecDepth 100000 in
theorem in_P : ∀ w ∈ u_ws R_P F_P 3, w ∈ w0 := by decide +kernel
theorem tk_P : ∀ k, k < 3 → parseFieldDescriptor (F_P k).2.2.1 = some (ft_P k) := by decide +kernel
theorem nk_P : ∀ a, a < 3 → ∀ b, b < 3 → a ≠ b → (F_P a).2.1 ≠ (F_P b).2.1 := by decide +kernel
theorem nw_P : ∀ j, j < 3 → defaultValue (ft_P j) = vp_V [.int 0, .int 0, .int 0] j := by decide +kernel
set_option maxRecDepth 100000 in
theorem in_D : ∀ w ∈ u_ws R_D F_D 3, w ∈ w0 := by decide +kernel
theorem tk_D : ∀ k, k < 3 → parseFieldDescriptor (F_D k).2.2.1 = some (ft_D k) := by decide +kernel
theorem nk_D : ∀ a, a < 3 → ∀ b, b < 3 → a ≠ b → (F_D a).2.1 ≠ (F_D b).2.1 := by decide +kernel
theorem nw_D : ∀ j, j < 3 → defaultValue (ft_D j) = vp_V [.null, .int 0, .int 0] j := by decide +kernel
set_option maxRecDepth 100000 in
theorem in_V : ∀ w ∈ u_ws R_V F_V 3, w ∈ w0 := by decide +kernel
theorem tk_V : ∀ k, k < 3 → parseFieldDescriptor (F_V k).2.2.1 = some (ft_V k) := by decide +kernel
theorem nk_V : ∀ a, a < 3 → ∀ b, b < 3 → a ≠ b → (F_V a).2.1 ≠ (F_V b).2.1 := by decide +kernel
theorem nw_V : ∀ j, j < 3 → defaultValue (ft_V j) = vp_V [.null, .int 0, .int 0] j := by decide +kernel
set_option maxRecDepth 100000 in
theorem in_O : ∀ w ∈ u_ws R_O F_O 27, w ∈ w0 := by decide +kernel
theorem tk_O : ∀ k, k < 27 → parseFieldDescriptor (F_O k).2.2.1 = some (ft_O k) := by decide +kernel
theorem nk_O : ∀ a, a < 27 → ∀ b, b < 27 → a ≠ b → (F_O a).2.1 ≠ (F_O b).2.1 := by decide +kernel
theorem nw_O : ∀ j, j < 27 → defaultValue (ft_O j) = vp_V [.int 0, .int 0, .int 0, .null, .int 0, .int 0, .null, .null, .null, .null, .null, .null, .null, .null, .int 0, .null, .int 0, .null, .int 0, .int 0, .null, .int 0, .null, .int 0, .int 0, .int 0, .int 0] j := by decide +kernel
def k_P_init : List Cond := .code y_P_init prog_5_method_1_code 1 none :: w0
def k_T_init : List Cond := .code y_T_init prog_7_method_1_code 1 none :: w0
def k_W_init : List Cond := .code y_W_init prog_4_method_1_code 1 none :: w0
def k_M_init : List Cond := .code y_M_init prog_3_method_1_code 1 none :: w0
def k_K_init : List Cond := .code y_K_init prog_1_method_1_code 1 none :: w0
def k_T_hasRoom : List Cond := .code y_T_hasRoom prog_7_method_3_code 2 (some .boolean) :: w0
def k_T_byteAt : List Cond := .code y_T_byteAt prog_7_method_2_code 2 (some .int) :: w0
def k_T_addByte : List Cond := .code y_T_addByte prog_7_method_4_code 2 none :: w0
def k_T_addInt : List Cond := .code y_T_addInt prog_7_method_5_code 3 none :: w0
def k_T_shorten : List Cond := .code y_T_shorten prog_7_method_6_code 2 (some .boolean) :: w0
def k_T_sum : List Cond := .code y_T_sum prog_7_method_8_code 3 (some .int) :: w0
def k_T_become : List Cond := .code y_T_become prog_7_method_7_code 2 none :: w0
def k_T_runWith : List Cond := .code y_T_runWith prog_7_method_9_code 6 (some .int) :: w0
def k_W_writeByte : List Cond := .code y_W_writeByte prog_4_method_8_code 2 none :: w0
def k_W_digitsOf : List Cond := .code y_W_digitsOf prog_4_method_7_code 3 (some .int) :: w0
def k_W_writeNumber : List Cond := .code y_W_writeNumber prog_4_method_6_code 4 none :: w0
def k_W_writeInsert : List Cond := .code y_W_writeInsert prog_4_method_5_code 5 none :: w0
def k_W_placeOfLongest : List Cond := .code y_W_placeOfLongest prog_4_method_4_code 7 (some .int) :: w0
def k_W_writeDifferences : List Cond := .code y_W_writeDifferences prog_4_method_3_code 7 none :: w0
def k_A_copyOf : List Cond := .code y_A_copyOf prog_19_method_121_code 3 (some (.array .byte)) :: w0
def k_W_pieceOf : List Cond := .code y_W_pieceOf prog_4_method_2_code 3 (some (.array .byte)) :: w0
def k_O_put : List Cond := .code y_O_put prog_9_method_21_code 2 none :: w0
def k_O_putNumber : List Cond := .code y_O_putNumber prog_9_method_22_code 3 none :: w0
def k_O_run : List Cond := .code y_O_run prog_9_method_24_code 4 (some .int) :: w0
def k_O_inserts : List Cond := .code y_O_inserts prog_9_method_23_code 4 none :: w0
def k_O_pieces : List Cond := .code y_O_pieces prog_9_method_25_code 7 none :: w0
def k_M_readNumber : List Cond := .code y_M_readNumber prog_3_method_8_code 4 (some .int) :: w0
def k_O_number : List Cond := .code y_O_number prog_9_method_17_code 3 (some .boolean) :: w0
def k_M_insert : List Cond := .code y_M_insert prog_3_method_6_code 3 (some .boolean) :: w0
def k_M_copy : List Cond := .code y_M_copy prog_3_method_7_code 4 (some .boolean) :: w0
def k_M_obeyCommand : List Cond := .code y_M_obeyCommand prog_3_method_5_code 3 (some .boolean) :: w0
def k_O_command : List Cond := .code y_O_command prog_9_method_18_code 5 (some .boolean) :: w0
def k_O_begins : List Cond := .code y_O_begins prog_9_method_10_code 4 (some .int) :: w0
def k_O_sum : List Cond := .code y_O_sum prog_9_method_26_code 5 (some .int) :: w0
def k_P_goAfter : List Cond := .code y_P_goAfter prog_5_method_2_code 2 none :: w0
def k_P_comeBack : List Cond := .code y_P_comeBack prog_5_method_3_code 1 none :: w0
def k_P_lastsFor : List Cond := .code y_P_lastsFor prog_5_method_4_code 2 (some .boolean) :: w0
def k_K_baseOf : List Cond := .code y_K_baseOf prog_1_method_28_code 1 (some .int) :: w0
def k_K_blocksFor : List Cond := .code y_K_blocksFor prog_1_method_27_code 1 (some .int) :: w0
def k_V_init : List Cond := .code y_V_init prog_6_method_1_code 4 none :: w0
def k_V_hasByte : List Cond := .code y_V_hasByte prog_6_method_2_code 2 (some .boolean) :: w0
def k_D_init : List Cond := .code y_D_init prog_2_method_1_code 1 none :: w0
def k_D_isFull : List Cond := .code y_D_isFull prog_2_method_2_code 1 (some .boolean) :: w0
def k_D_newest : List Cond := .code y_D_newest prog_2_method_3_code 1 (some .int) :: w0
def k_D_canBeAsked : List Cond := .code y_D_canBeAsked prog_2_method_4_code 2 (some .boolean) :: w0
def k_D_keptAt : List Cond := .code y_D_keptAt prog_2_method_5_code 2 (some (.object "TextKeeper$Revision")) :: w0
def k_D_add : List Cond := .code y_D_add prog_2_method_6_code 2 none :: w0
def k_D_cutBefore : List Cond := .code y_D_cutBefore prog_2_method_7_code 4 none :: w0
def k_D_countBlocks : List Cond := .code y_D_countBlocks prog_2_method_8_code 3 (some .int) :: w0
def k_M_makeNext : List Cond := .code y_M_makeNext prog_3_method_4_code 7 (some .boolean) :: w0
def k_M_makeAgain : List Cond := .code y_M_makeAgain prog_3_method_3_code 6 (some (.object "TextKeeper$Text")) :: w0
def k_M_makeBase : List Cond := .code y_M_makeBase prog_3_method_2_code 3 (some (.object "TextKeeper$Text")) :: w0
def k_O_runs : List Cond := .code y_O_runs prog_9_method_3_code 2 (some .boolean) :: w0
def k_O_writes : List Cond := .code y_O_writes prog_9_method_4_code 2 (some .boolean) :: w0
def k_O_isDocument : List Cond := .code y_O_isDocument prog_9_method_7_code 2 (some .boolean) :: w0
def k_O_isAsked : List Cond := .code y_O_isAsked prog_9_method_8_code 3 (some .boolean) :: w0
def k_O_kept : List Cond := .code y_O_kept prog_9_method_9_code 3 (some .int) :: w0
def k_O_blocks : List Cond := .code y_O_blocks prog_9_method_11_code 1 (some .int) :: w0
def k_O_free : List Cond := .code y_O_free prog_9_method_12_code 3 (some .int) :: w0
def k_O_isUnder : List Cond := .code y_O_isUnder prog_9_method_14_code 3 (some .boolean) :: w0
def k_O_makes : List Cond := .code y_O_makes prog_9_method_19_code 3 (some .boolean) :: w0
def k_O_again : List Cond := .code y_O_again prog_9_method_20_code 5 (some .boolean) :: w0
def k_O_drop : List Cond := .code y_O_drop prog_9_method_13_code 5 none :: w0
def k_O_cleans : List Cond := .code y_O_cleans prog_9_method_15_code 5 none :: w0
def k_O_end : List Cond := .code y_O_end prog_9_method_6_code 2 (some .boolean) :: w0
def k_O_steps : List Cond := .code y_O_steps prog_9_method_30_code 1 (some .int) :: w0
def k_O_out : List Cond := .code y_O_out prog_9_method_29_code 2 (some .int) :: w0
def k_O_cutAfter : List Cond := .code y_O_cutAfter prog_9_method_40_code 2 (some .boolean) :: w0
def k_O_freeBlocks : List Cond := .code y_O_freeBlocks prog_9_method_39_code 1 (some .int) :: w0
def k_O_make : List Cond := .code y_O_make prog_9_method_16_code 1 (some .int) :: w0
def k_O_trim : List Cond := .code y_O_trim prog_9_method_31_code 3 (some .boolean) :: w0
def k_O_dropDocument : List Cond := .code y_O_dropDocument prog_9_method_32_code 2 (some .boolean) :: w0
def k_O_about : List Cond := .code y_O_about prog_9_method_33_code 3 (some .int) :: w0
def k_O_pieceByte : List Cond := .code y_O_pieceByte prog_9_method_35_code 5 (some .int) :: w0
def k_O_damage : List Cond := .code y_O_damage prog_9_method_36_code 6 (some .boolean) :: w0
def k_O_start : List Cond := .code y_O_start prog_9_method_41_code 2 (some .boolean) :: w0
def k_O_isDown : List Cond := .code y_O_isDown prog_9_method_42_code 1 (some .boolean) :: w0
def k_O_feed : List Cond := .code y_O_feed prog_9_method_5_code 8 (some .boolean) :: w0
def k_O_fetch : List Cond := .code y_O_fetch prog_9_method_28_code 4 (some .int) :: w0
def k_O_commit : List Cond := .code y_O_commit prog_9_method_27_code 7 (some .int) :: w0
def k_K_needPower : List Cond := .code y_K_needPower prog_1_method_21_code 1 none :: w0
def k_K_documentAt : List Cond := .code y_K_documentAt prog_1_method_23_code 2 (some (.object "TextKeeper$Document")) :: w0
def k_K_keptRevision : List Cond := .code y_K_keptRevision prog_1_method_24_code 4 (some (.object "TextKeeper$Revision")) :: w0
def k_K_feed : List Cond := .code y_K_feed prog_1_method_2_code 6 (some .boolean) :: w0
def k_K_end : List Cond := .code y_K_end prog_1_method_3_code 2 (some .boolean) :: w0
def k_K_out : List Cond := .code y_K_out prog_1_method_7_code 2 (some .int) :: w0
def k_K_steps : List Cond := .code y_K_steps prog_1_method_8_code 1 (some .int) :: w0
def k_K_cutAfter : List Cond := .code y_K_cutAfter prog_1_method_18_code 2 (some .boolean) :: w0
def k_K_start : List Cond := .code y_K_start prog_1_method_19_code 1 (some .boolean) :: w0
def k_K_isDown : List Cond := .code y_K_isDown prog_1_method_20_code 1 (some .boolean) :: w0
def k_K_spendWrites : List Cond := .code y_K_spendWrites prog_1_method_22_code 2 none :: w0
def k_K_pieceByte : List Cond := .code y_K_pieceByte prog_1_method_13_code 5 (some .int) :: w0
def k_K_damage : List Cond := .code y_K_damage prog_1_method_14_code 6 (some .boolean) :: w0
def k_K_make : List Cond := .code y_K_make prog_1_method_4_code 2 (some .int) :: w0
def k_K_countFree : List Cond := .code y_K_countFree prog_1_method_26_code 6 (some .int) :: w0
def k_K_freeBlocks : List Cond := .code y_K_freeBlocks prog_1_method_17_code 1 (some .int) :: w0
def k_K_trim : List Cond := .code y_K_trim prog_1_method_9_code 4 (some .boolean) :: w0
def k_K_dropDocument : List Cond := .code y_K_dropDocument prog_1_method_10_code 2 (some .boolean) :: w0
def k_K_fetch : List Cond := .code y_K_fetch prog_1_method_6_code 5 (some .int) :: w0
def k_K_commit : List Cond := .code y_K_commit prog_1_method_5_code 7 (some .int) :: w0
def k_O_init : List Cond := .code y_O_init prog_9_method_1_code 2 none :: w0
