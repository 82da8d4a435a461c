/-! the words that all contracts share, the nest mates' words, facts on the tables -/
def w0_0 : List Cond := [.laysFinal "TextKeeper" "TextKeeper" "documents" "[LTextKeeper$Document;",
  .laysFinal "TextKeeper" "TextKeeper" "buffer" "LTextKeeper$Text;",
  .laysFinal "TextKeeper" "TextKeeper" "fetched" "LTextKeeper$Text;",
  .laysFinal "TextKeeper" "TextKeeper" "compared" "LTextKeeper$Text;",
  .laysFinal "TextKeeper" "TextKeeper" "maker" "LTextKeeper$Maker;",
  .laysFinal "TextKeeper" "TextKeeper" "writer" "LTextKeeper$PieceWriter;",
  .laysFinal "TextKeeper" "TextKeeper" "power" "LTextKeeper$Power;",
  .lays "TextKeeper" "TextKeeper" "madeDocuments" "I",
  .lays "TextKeeper" "TextKeeper" "fetchedSteps" "I",
  .laysFinal "TextKeeper$Text" "TextKeeper$Text" "bytes" "[B",
  .lays "TextKeeper$Text" "TextKeeper$Text" "length" "I",
  .lays "TextKeeper$Maker" "TextKeeper$Maker" "base" "LTextKeeper$Text;",
  .lays "TextKeeper$Maker" "TextKeeper$Maker" "text" "LTextKeeper$Text;",
  .lays "TextKeeper$Maker" "TextKeeper$Maker" "piece" "[B",
  .lays "TextKeeper$Maker" "TextKeeper$Maker" "at" "I",
  .laysFinal "TextKeeper$PieceWriter" "TextKeeper$PieceWriter" "row" "[B",
  .lays "TextKeeper$PieceWriter" "TextKeeper$PieceWriter" "length" "I",
  .lays "TextKeeper$Power" "TextKeeper$Power" "down" "Z",
  .lays "TextKeeper$Power" "TextKeeper$Power" "going" "Z",
  .lays "TextKeeper$Power" "TextKeeper$Power" "writesLeft" "I",
  .laysFinal "TextKeeper$Document" "TextKeeper$Document" "revisions" "[LTextKeeper$Revision;",
  .lays "TextKeeper$Document" "TextKeeper$Document" "first" "I",
  .lays "TextKeeper$Document" "TextKeeper$Document" "count" "I",
  .laysFinal "TextKeeper$Revision" "TextKeeper$Revision" "piece" "[B",
  .laysFinal "TextKeeper$Revision" "TextKeeper$Revision" "author" "I",
  .laysFinal "TextKeeper$Revision" "TextKeeper$Revision" "sum" "I",
  .lays "TextKeeperModel" "TextKeeperModel" "thrown" "I",
  .lays "TextKeeperModel" "TextKeeperModel" "down" "Z",
  .lays "TextKeeperModel" "TextKeeperModel" "lasts" "I",
  .laysFinal "TextKeeperModel" "TextKeeperModel" "buffer" "[B",
  .lays "TextKeeperModel" "TextKeeperModel" "size" "I",
  .lays "TextKeeperModel" "TextKeeperModel" "documents" "I",
  .laysFinal "TextKeeperModel" "TextKeeperModel" "gone" "[Z",
  .laysFinal "TextKeeperModel" "TextKeeperModel" "first" "[I",
  .laysFinal "TextKeeperModel" "TextKeeperModel" "many" "[I",
  .laysFinal "TextKeeperModel" "TextKeeperModel" "lengths" "[S",
  .laysFinal "TextKeeperModel" "TextKeeperModel" "authors" "[I",
  .laysFinal "TextKeeperModel" "TextKeeperModel" "sums" "[I",
  .laysFinal "TextKeeperModel" "TextKeeperModel" "row" "[B",
  .lays "TextKeeperModel" "TextKeeperModel" "made" "[B"]
def w0_1 : List Cond := [.lays "TextKeeperModel" "TextKeeperModel" "madeSize" "I",
  .lays "TextKeeperModel" "TextKeeperModel" "base" "[B",
  .lays "TextKeeperModel" "TextKeeperModel" "baseSize" "I",
  .laysFinal "TextKeeperModel" "TextKeeperModel" "text" "[B",
  .lays "TextKeeperModel" "TextKeeperModel" "textSize" "I",
  .lays "TextKeeperModel" "TextKeeperModel" "textSteps" "I",
  .laysFinal "TextKeeperModel" "TextKeeperModel" "other" "[B",
  .lays "TextKeeperModel" "TextKeeperModel" "otherSize" "I",
  .laysFinal "TextKeeperModel" "TextKeeperModel" "piece" "[B",
  .lays "TextKeeperModel" "TextKeeperModel" "pieceSize" "I",
  .lays "TextKeeperModel" "TextKeeperModel" "at" "I",
  .lays "TextKeeperModel" "TextKeeperModel" "end" "I",
  .lays "TextKeeperModel" "TextKeeperModel" "value" "I",
  .methodLink R_P 1 objectInit,
  .instanceMethod objectInit,
  .code objectInit ⟨#[0xb1]⟩ 1 none,
  .fieldLink R_P 7 "TextKeeper$Power" "down" "Z",
  .fieldLink R_P 13 "TextKeeper$Power" "going" "Z",
  .fieldLink R_P 16 "TextKeeper$Power" "writesLeft" "I",
  .methodLink R_T 3 objectInit,
  .arrayClass .byte,
  .fieldLink R_T 9 "TextKeeper$Text" "bytes" "[B",
  .fieldLink R_T 15 "TextKeeper$Text" "length" "I",
  .methodLink R_W 3 objectInit,
  .fieldLink R_W 9 "TextKeeper$PieceWriter" "row" "[B",
  .fieldLink R_W 15 "TextKeeper$PieceWriter" "length" "I",
  .methodLink R_M 3 objectInit,
  .classLink R_M 9 R_T,
  .instantiable R_T 2,
  .initialized R_T,
  .code y_T_init prog_7_method_1_code 1 none,
  .methodLink R_M 11 y_T_init,
  .instanceMethod y_T_init,
  .fieldLink R_M 12 "TextKeeper$Maker" "base" "LTextKeeper$Text;",
  .fieldLink R_M 18 "TextKeeper$Maker" "text" "LTextKeeper$Text;",
  .fieldLink R_M 21 "TextKeeper$Maker" "piece" "[B",
  .fieldLink R_M 25 "TextKeeper$Maker" "at" "I",
  .methodLink R_K 1 objectInit,
  .classLink R_K 9 R_D,
  .fieldLink R_K 11 "TextKeeper" "documents" "[LTextKeeper$Document;"]
def w0_2 : List Cond := [.classLink R_K 15 R_T,
  .methodLink R_K 17 y_T_init,
  .fieldLink R_K 18 "TextKeeper" "buffer" "LTextKeeper$Text;",
  .fieldLink R_K 22 "TextKeeper" "fetched" "LTextKeeper$Text;",
  .fieldLink R_K 25 "TextKeeper" "compared" "LTextKeeper$Text;",
  .classLink R_K 28 R_M,
  .instantiable R_M 4,
  .initialized R_M,
  .code y_M_init prog_3_method_1_code 1 none,
  .methodLink R_K 30 y_M_init,
  .instanceMethod y_M_init,
  .fieldLink R_K 31 "TextKeeper" "maker" "LTextKeeper$Maker;",
  .classLink R_K 35 R_W,
  .instantiable R_W 2,
  .initialized R_W,
  .code y_W_init prog_4_method_1_code 1 none,
  .methodLink R_K 37 y_W_init,
  .instanceMethod y_W_init,
  .fieldLink R_K 38 "TextKeeper" "writer" "LTextKeeper$PieceWriter;",
  .classLink R_K 42 R_P,
  .instantiable R_P 3,
  .initialized R_P,
  .code y_P_init prog_5_method_1_code 1 none,
  .methodLink R_K 44 y_P_init,
  .instanceMethod y_P_init,
  .fieldLink R_K 45 "TextKeeper" "power" "LTextKeeper$Power;",
  .fieldLink R_K 49 "TextKeeper" "madeDocuments" "I",
  .fieldLink R_K 53 "TextKeeper" "fetchedSteps" "I",
  .methodLink R_T 19 y_T_addByte,
  .instanceMethod y_T_addByte,
  .selects R_T y_T_addByte y_T_addByte,
  .code y_T_addByte prog_7_method_4_code 2 none,
  .methodLink R_T 23 ⟨"java/lang/System","arraycopy","(Ljava/lang/Object;ILjava/lang/Object;II)V"⟩,
  .native ⟨"java/lang/System","arraycopy","(Ljava/lang/Object;ILjava/lang/Object;II)V"⟩,
  .static ⟨"java/lang/System","arraycopy","(Ljava/lang/Object;ILjava/lang/Object;II)V"⟩,
  .initialized "java/lang/System",
  .code ⟨"java/lang/Math","min","(II)I"⟩ prog_15_method_69_code 2 (Option.some .int),
  .methodLink R_T 29 ⟨"java/lang/Math","min","(II)I"⟩,
  .static ⟨"java/lang/Math","min","(II)I"⟩,
  .initialized "java/lang/Math"]
def w0_3 : List Cond := [.methodLink R_W 26 y_W_digitsOf,
  .static y_W_digitsOf,
  .code y_W_digitsOf prog_4_method_7_code 3 (some .int),
  .methodLink R_W 55 y_W_writeByte,
  .instanceMethod y_W_writeByte,
  .selects R_W y_W_writeByte y_W_writeByte,
  .code y_W_writeByte prog_4_method_8_code 2 none,
  .methodLink R_W 52 y_T_byteAt,
  .instanceMethod y_T_byteAt,
  .selects R_T y_T_byteAt y_T_byteAt,
  .code y_T_byteAt prog_7_method_2_code 2 (some .int),
  .methodLink R_W 48 y_W_writeNumber,
  .instanceMethod y_W_writeNumber,
  .selects R_W y_W_writeNumber y_W_writeNumber,
  .code y_W_writeNumber prog_4_method_6_code 4 none,
  .methodLink R_W 44 y_T_runWith,
  .instanceMethod y_T_runWith,
  .selects R_T y_T_runWith y_T_runWith,
  .code y_T_runWith prog_7_method_9_code 6 (some .int),
  .methodLink R_W 40 y_W_placeOfLongest,
  .static y_W_placeOfLongest,
  .code y_W_placeOfLongest prog_4_method_4_code 7 (some .int),
  .methodLink R_W 30 y_W_writeInsert,
  .instanceMethod y_W_writeInsert,
  .selects R_W y_W_writeInsert y_W_writeInsert,
  .code y_W_writeInsert prog_4_method_5_code 5 none,
  .methodLink R_A 304 ⟨"java/lang/Math","min","(II)I"⟩,
  .methodLink R_A 150 ⟨"java/lang/System","arraycopy","(Ljava/lang/Object;ILjava/lang/Object;II)V"⟩,
  .methodLink R_W 19 y_W_writeDifferences,
  .instanceMethod y_W_writeDifferences,
  .selects R_W y_W_writeDifferences y_W_writeDifferences,
  .code y_W_writeDifferences prog_4_method_3_code 7 none,
  .methodLink R_W 34 y_A_copyOf,
  .static y_A_copyOf,
  .initialized R_A,
  .code y_A_copyOf prog_19_method_121_code 3 (some (.array .byte)),
  .fieldLink R_O 59 "TextKeeperModel" "piece" "[B",
  .fieldLink R_O 125 "TextKeeperModel" "pieceSize" "I",
  .methodLink R_O 128 y_O_put,
  .instanceMethod y_O_put]
def w0_4 : List Cond := [.selects R_O y_O_put y_O_put,
  .initialized R_O,
  .code y_O_put prog_9_method_21_code 2 none,
  .fieldLink R_O 69 "TextKeeperModel" "size" "I",
  .fieldLink R_O 113 "TextKeeperModel" "madeSize" "I",
  .fieldLink R_O 13 "TextKeeperModel" "buffer" "[B",
  .fieldLink R_O 41 "TextKeeperModel" "made" "[B",
  .methodLink R_O 131 y_O_putNumber,
  .instanceMethod y_O_putNumber,
  .selects R_O y_O_putNumber y_O_putNumber,
  .code y_O_putNumber prog_9_method_22_code 3 none,
  .methodLink R_O 134 y_O_run,
  .instanceMethod y_O_run,
  .selects R_O y_O_run y_O_run,
  .code y_O_run prog_9_method_24_code 4 (some .int),
  .methodLink R_O 138 y_O_inserts,
  .instanceMethod y_O_inserts,
  .selects R_O y_O_inserts y_O_inserts,
  .code y_O_inserts prog_9_method_23_code 4 none,
  .fieldLink R_O 100 "TextKeeperModel" "value" "I",
  .fieldLink R_O 103 "TextKeeperModel" "at" "I",
  .fieldLink R_O 106 "TextKeeperModel" "end" "I",
  .fieldLink R_O 38 "TextKeeperModel" "row" "[B",
  .methodLink R_M 71 y_T_addByte,
  .methodLink R_M 78 y_T_byteAt,
  .methodLink R_M 58 y_M_readNumber,
  .instanceMethod y_M_readNumber,
  .selects R_M y_M_readNumber y_M_readNumber,
  .code y_M_readNumber prog_3_method_8_code 4 (some .int),
  .methodLink R_M 62 y_T_hasRoom,
  .instanceMethod y_T_hasRoom,
  .selects R_T y_T_hasRoom y_T_hasRoom,
  .code y_T_hasRoom prog_7_method_3_code 2 (some .boolean),
  .methodLink R_M 68 y_M_copy,
  .instanceMethod y_M_copy,
  .selects R_M y_M_copy y_M_copy,
  .code y_M_copy prog_3_method_7_code 4 (some .boolean),
  .methodLink R_M 65 y_M_insert,
  .instanceMethod y_M_insert,
  .selects R_M y_M_insert y_M_insert]
def w0_5 : List Cond := [.code y_M_insert prog_3_method_6_code 3 (some .boolean),
  .fieldLink R_O 44 "TextKeeperModel" "base" "[B",
  .methodLink R_O 109 y_O_number,
  .instanceMethod y_O_number,
  .selects R_O y_O_number y_O_number,
  .code y_O_number prog_9_method_17_code 3 (some .boolean),
  .fieldLink R_O 116 "TextKeeperModel" "baseSize" "I",
  .fieldLink R_O 28 "TextKeeperModel" "lengths" "[S",
  .methodLink R_O 119 y_O_command,
  .instanceMethod y_O_command,
  .selects R_O y_O_command y_O_command,
  .code y_O_command prog_9_method_18_code 5 (some .boolean),
  .methodLink R_M 54 y_M_obeyCommand,
  .instanceMethod y_M_obeyCommand,
  .selects R_M y_M_obeyCommand y_M_obeyCommand,
  .code y_M_obeyCommand prog_3_method_5_code 3 (some .boolean),
  .methodLink R_V 1 objectInit,
  .fieldLink R_V 7 "TextKeeper$Revision" "piece" "[B",
  .fieldLink R_V 13 "TextKeeper$Revision" "author" "I",
  .fieldLink R_V 17 "TextKeeper$Revision" "sum" "I",
  .methodLink R_D 3 objectInit,
  .classLink R_D 9 R_V,
  .fieldLink R_D 11 "TextKeeper$Document" "revisions" "[LTextKeeper$Revision;",
  .fieldLink R_D 17 "TextKeeper$Document" "first" "I",
  .fieldLink R_D 21 "TextKeeper$Document" "count" "I",
  .code y_K_baseOf prog_1_method_28_code 1 (some .int),
  .initialized R_K,
  .static y_K_baseOf,
  .code y_K_blocksFor prog_1_method_27_code 1 (some .int),
  .static y_K_blocksFor,
  .methodLink R_M 45 y_D_keptAt,
  .instanceMethod y_D_keptAt,
  .selects R_D y_D_keptAt y_D_keptAt,
  .initialized R_D,
  .code y_D_keptAt prog_2_method_5_code 2 (some (.object "TextKeeper$Revision")),
  .methodLink R_M 29 y_T_shorten,
  .instanceMethod y_T_shorten,
  .selects R_T y_T_shorten y_T_shorten,
  .code y_T_shorten prog_7_method_6_code 2 (some .boolean),
  .methodLink R_M 41 y_M_makeNext]
def w0_6 : List Cond := [.instanceMethod y_M_makeNext,
  .selects R_M y_M_makeNext y_M_makeNext,
  .code y_M_makeNext prog_3_method_4_code 7 (some .boolean),
  .methodLink R_M 37 y_M_makeAgain,
  .instanceMethod y_M_makeAgain,
  .selects R_M y_M_makeAgain y_M_makeAgain,
  .code y_M_makeAgain prog_3_method_3_code 6 (some (.object "TextKeeper$Text")),
  .fieldLink R_O 65 "TextKeeperModel" "down" "Z",
  .fieldLink R_O 62 "TextKeeperModel" "thrown" "I",
  .fieldLink R_O 9 "TextKeeperModel" "lasts" "I",
  .fieldLink R_O 76 "TextKeeperModel" "documents" "I",
  .fieldLink R_O 17 "TextKeeperModel" "gone" "[Z",
  .methodLink R_O 79 y_O_isDocument,
  .instanceMethod y_O_isDocument,
  .selects R_O y_O_isDocument y_O_isDocument,
  .code y_O_isDocument prog_9_method_7_code 2 (some .boolean),
  .fieldLink R_O 21 "TextKeeperModel" "first" "[I",
  .fieldLink R_O 25 "TextKeeperModel" "many" "[I",
  .methodLink R_O 82 y_O_blocks,
  .static y_O_blocks,
  .code y_O_blocks prog_9_method_11_code 1 (some .int),
  .methodLink R_O 86 y_O_begins,
  .instanceMethod y_O_begins,
  .selects R_O y_O_begins y_O_begins,
  .code y_O_begins prog_9_method_10_code 4 (some .int),
  .methodLink R_O 122 y_O_makes,
  .instanceMethod y_O_makes,
  .selects R_O y_O_makes y_O_makes,
  .code y_O_makes prog_9_method_19_code 3 (some .boolean),
  .methodLink R_O 89 y_O_isUnder,
  .static y_O_isUnder,
  .code y_O_isUnder prog_9_method_14_code 3 (some .boolean),
  .methodLink R_O 93 y_O_drop,
  .instanceMethod y_O_drop,
  .selects R_O y_O_drop y_O_drop,
  .code y_O_drop prog_9_method_13_code 5 none,
  .methodLink R_O 72 y_O_runs,
  .instanceMethod y_O_runs,
  .selects R_O y_O_runs y_O_runs,
  .code y_O_runs prog_9_method_3_code 2 (some .boolean)]
def w0_7 : List Cond := [.fieldLink R_O 53 "TextKeeperModel" "textSteps" "I",
  .fieldLink R_O 50 "TextKeeperModel" "textSize" "I",
  .fieldLink R_O 47 "TextKeeperModel" "text" "[B",
  .methodLink R_O 148 y_O_free,
  .instanceMethod y_O_free,
  .selects R_O y_O_free y_O_free,
  .code y_O_free prog_9_method_12_code 3 (some .int),
  .methodLink R_O 97 y_O_writes,
  .instanceMethod y_O_writes,
  .selects R_O y_O_writes y_O_writes,
  .code y_O_writes prog_9_method_4_code 2 (some .boolean),
  .methodLink R_O 156 y_O_isAsked,
  .instanceMethod y_O_isAsked,
  .selects R_O y_O_isAsked y_O_isAsked,
  .code y_O_isAsked prog_9_method_8_code 3 (some .boolean),
  .methodLink R_O 159 y_O_cleans,
  .instanceMethod y_O_cleans,
  .selects R_O y_O_cleans y_O_cleans,
  .code y_O_cleans prog_9_method_15_code 5 none,
  .methodLink R_O 162 y_O_kept,
  .instanceMethod y_O_kept,
  .selects R_O y_O_kept y_O_kept,
  .code y_O_kept prog_9_method_9_code 3 (some .int),
  .methodLink R_O 142 y_O_again,
  .instanceMethod y_O_again,
  .selects R_O y_O_again y_O_again,
  .code y_O_again prog_9_method_20_code 5 (some .boolean),
  .methodLink R_O 145 y_O_pieces,
  .instanceMethod y_O_pieces,
  .selects R_O y_O_pieces y_O_pieces,
  .code y_O_pieces prog_9_method_25_code 7 none,
  .fieldLink R_O 32 "TextKeeperModel" "authors" "[I",
  .fieldLink R_O 35 "TextKeeperModel" "sums" "[I",
  .methodLink R_O 152 y_O_sum,
  .instanceMethod y_O_sum,
  .selects R_O y_O_sum y_O_sum,
  .code y_O_sum prog_9_method_26_code 5 (some .int),
  .methodLink R_K 74 y_K_documentAt,
  .instanceMethod y_K_documentAt,
  .selects R_K y_K_documentAt y_K_documentAt]
def w0_8 : List Cond := [.code y_K_documentAt prog_1_method_23_code 2 (some (.object "TextKeeper$Document")),
  .methodLink R_K 193 y_D_keptAt,
  .methodLink R_K 56 y_K_needPower,
  .instanceMethod y_K_needPower,
  .selects R_K y_K_needPower y_K_needPower,
  .code y_K_needPower prog_1_method_21_code 1 none,
  .methodLink R_K 59 y_T_hasRoom,
  .methodLink R_K 63 y_T_addInt,
  .instanceMethod y_T_addInt,
  .selects R_T y_T_addInt y_T_addInt,
  .code y_T_addInt prog_7_method_5_code 3 none,
  .methodLink R_K 67 y_T_shorten,
  .methodLink R_K 134 y_T_byteAt,
  .methodLink R_K 177 y_P_goAfter,
  .instanceMethod y_P_goAfter,
  .selects R_P y_P_goAfter y_P_goAfter,
  .code y_P_goAfter prog_5_method_2_code 2 none,
  .methodLink R_K 184 y_P_comeBack,
  .instanceMethod y_P_comeBack,
  .selects R_P y_P_comeBack y_P_comeBack,
  .code y_P_comeBack prog_5_method_3_code 1 none,
  .methodLink R_K 190 y_P_lastsFor,
  .instanceMethod y_P_lastsFor,
  .selects R_P y_P_lastsFor y_P_lastsFor,
  .code y_P_lastsFor prog_5_method_4_code 2 (some .boolean),
  .methodLink R_K 149 y_K_keptRevision,
  .instanceMethod y_K_keptRevision,
  .selects R_K y_K_keptRevision y_K_keptRevision,
  .code y_K_keptRevision prog_1_method_24_code 4 (some (.object "TextKeeper$Revision")),
  .methodLink R_K 162 y_V_hasByte,
  .instanceMethod y_V_hasByte,
  .selects R_V y_V_hasByte y_V_hasByte,
  .initialized R_V,
  .code y_V_hasByte prog_6_method_2_code 2 (some .boolean),
  .methodLink R_K 70 y_K_spendWrites,
  .instanceMethod y_K_spendWrites,
  .selects R_K y_K_spendWrites y_K_spendWrites,
  .code y_K_spendWrites prog_1_method_22_code 2 none,
  .instantiable R_D 3,
  .code y_D_init prog_2_method_1_code 1 none]
def w0_9 : List Cond := [.methodLink R_K 73 y_D_init,
  .instanceMethod y_D_init,
  .methodLink R_K 197 y_D_countBlocks,
  .instanceMethod y_D_countBlocks,
  .selects R_D y_D_countBlocks y_D_countBlocks,
  .code y_D_countBlocks prog_2_method_8_code 3 (some .int),
  .methodLink R_K 97 y_K_countFree,
  .instanceMethod y_K_countFree,
  .selects R_K y_K_countFree y_K_countFree,
  .code y_K_countFree prog_1_method_26_code 6 (some .int),
  .methodLink R_K 116 y_D_canBeAsked,
  .instanceMethod y_D_canBeAsked,
  .selects R_D y_D_canBeAsked y_D_canBeAsked,
  .code y_D_canBeAsked prog_2_method_4_code 2 (some .boolean),
  .methodLink R_K 137 y_D_cutBefore,
  .instanceMethod y_D_cutBefore,
  .selects R_D y_D_cutBefore y_D_cutBefore,
  .code y_D_cutBefore prog_2_method_7_code 4 none,
  .methodLink R_K 78 y_D_isFull,
  .instanceMethod y_D_isFull,
  .selects R_D y_D_isFull y_D_isFull,
  .code y_D_isFull prog_2_method_2_code 1 (some .boolean),
  .methodLink R_K 85 y_M_makeBase,
  .instanceMethod y_M_makeBase,
  .selects R_M y_M_makeBase y_M_makeBase,
  .code y_M_makeBase prog_3_method_2_code 3 (some (.object "TextKeeper$Text")),
  .methodLink R_K 89 y_W_pieceOf,
  .instanceMethod y_W_pieceOf,
  .selects R_W y_W_pieceOf y_W_pieceOf,
  .code y_W_pieceOf prog_4_method_2_code 3 (some (.array .byte)),
  .methodLink R_K 93 y_K_blocksFor,
  .classLink R_K 101 R_V,
  .instantiable R_V 3,
  .methodLink R_K 103 y_T_sum,
  .instanceMethod y_T_sum,
  .selects R_T y_T_sum y_T_sum,
  .code y_T_sum prog_7_method_8_code 3 (some .int),
  .code y_V_init prog_6_method_1_code 4 none,
  .methodLink R_K 106 y_V_init,
  .instanceMethod y_V_init]
def w0_10 : List Cond := [.methodLink R_K 109 y_D_add,
  .instanceMethod y_D_add,
  .selects R_D y_D_add y_D_add,
  .code y_D_add prog_2_method_6_code 2 none,
  .methodLink R_K 113 y_D_newest,
  .instanceMethod y_D_newest,
  .selects R_D y_D_newest y_D_newest,
  .code y_D_newest prog_2_method_3_code 1 (some .int),
  .constant R_I 265 (1431655765 : Int32),
  .constant R_I 266 (858993459 : Int32),
  .constant R_I 267 (252645135 : Int32),
  .methodLink R_K 119 y_M_makeAgain,
  .methodLink R_K 122 y_T_become,
  .instanceMethod y_T_become,
  .selects R_T y_T_become y_T_become,
  .code y_T_become prog_7_method_7_code 2 none,
  .methodLink R_K 126 y_I_bitCount,
  .static y_I_bitCount,
  .initialized R_I,
  .code y_I_bitCount prog_14_method_49_code 1 (some .int),
  .methodLink R_O 1 objectInit,
  .arrayClass .boolean,
  .arrayClass .int,
  .arrayClass .short,
  .fieldLink R_O 56 "TextKeeperModel" "other" "[B",
  .initialized "java/lang/Throwable",
  .initialized "java/lang/Exception",
  .initialized "java/lang/RuntimeException",
  .initialized "java/lang/IllegalStateException",
  .initialized "java/util/NoSuchElementException",
  .initialized "java/lang/IllegalArgumentException",
  .classLink "TextKeeperLaw" 13 "java/lang/IllegalStateException",
  .classLink "TextKeeper" 187 "java/lang/IllegalStateException",
  .instantiable "java/lang/IllegalStateException" 6,
  .selects "java/lang/IllegalStateException" ⟨"java/lang/Throwable","fillInStackTrace","(I)Ljava/lang/Throwable;"⟩ ⟨"java/lang/Throwable","fillInStackTrace","(I)Ljava/lang/Throwable;"⟩,
  .selects "java/lang/IllegalStateException" ⟨"java/lang/Throwable","fillInStackTrace","()Ljava/lang/Throwable;"⟩ ⟨"java/lang/Throwable","fillInStackTrace","()Ljava/lang/Throwable;"⟩,
  .lays "java/lang/IllegalStateException" "java/lang/Throwable" "cause" "Ljava/lang/Throwable;",
  .lays "java/lang/Throwable" "java/lang/Throwable" "cause" "Ljava/lang/Throwable;",
  .lays "java/lang/IllegalStateException" "java/lang/Throwable" "stackTrace" "[Ljava/lang/StackTraceElement;",
  .lays "java/lang/Throwable" "java/lang/Throwable" "stackTrace" "[Ljava/lang/StackTraceElement;"]
def w0_11 : List Cond := [.lays "java/lang/IllegalStateException" "java/lang/Throwable" "suppressedExceptions" "Ljava/util/List;",
  .lays "java/lang/Throwable" "java/lang/Throwable" "suppressedExceptions" "Ljava/util/List;",
  .lays "java/lang/IllegalStateException" "java/lang/Throwable" "detailMessage" "Ljava/lang/String;",
  .lays "java/lang/Throwable" "java/lang/Throwable" "detailMessage" "Ljava/lang/String;",
  .lays "java/lang/IllegalStateException" "java/lang/Throwable" "backtrace" "Ljava/lang/Object;",
  .lays "java/lang/Throwable" "java/lang/Throwable" "backtrace" "Ljava/lang/Object;",
  .fieldLink "java/lang/Throwable" 198 "java/lang/Throwable" "backtrace" "Ljava/lang/Object;",
  .superclass "java/lang/Throwable" "java/lang/Object",
  .instanceMethod ⟨"java/lang/Throwable","<init>","()V"⟩,
  .code ⟨"java/lang/Throwable","<init>","()V"⟩ prog_18_method_1_code 1 (Option.none : Option Jvm.ClassFile.FieldType),
  .methodLink "java/lang/Throwable" 1 ⟨"java/lang/Object","<init>","()V"⟩,
  .fieldLink "java/lang/Throwable" 13 "java/lang/Throwable" "UNASSIGNED_STACK" "[Ljava/lang/StackTraceElement;",
  .fieldLink "java/lang/Throwable" 20 "java/lang/Throwable" "SUPPRESSED_SENTINEL" "Ljava/util/List;",
  .methodLink "java/lang/Throwable" 27 ⟨"java/lang/Throwable","fillInStackTrace","()Ljava/lang/Throwable;"⟩,
  .instanceMethod ⟨"java/lang/Throwable","fillInStackTrace","()Ljava/lang/Throwable;"⟩,
  .selects "java/lang/IllegalArgumentException" ⟨"java/lang/Throwable","fillInStackTrace","()Ljava/lang/Throwable;"⟩ ⟨"java/lang/Throwable","fillInStackTrace","()Ljava/lang/Throwable;"⟩,
  .selects "java/util/NoSuchElementException" ⟨"java/lang/Throwable","fillInStackTrace","()Ljava/lang/Throwable;"⟩ ⟨"java/lang/Throwable","fillInStackTrace","()Ljava/lang/Throwable;"⟩,
  .codeSync ⟨"java/lang/Throwable","fillInStackTrace","()Ljava/lang/Throwable;"⟩ prog_18_method_18_code 1 (Option.some (.object "java/lang/Throwable")),
  .methodLink "java/lang/Throwable" 202 ⟨"java/lang/Throwable","fillInStackTrace","(I)Ljava/lang/Throwable;"⟩,
  .instanceMethod ⟨"java/lang/Throwable","fillInStackTrace","(I)Ljava/lang/Throwable;"⟩,
  .instantiable "java/lang/Throwable" 6,
  .native ⟨"java/lang/Throwable","fillInStackTrace","(I)Ljava/lang/Throwable;"⟩,
  .methodLink "TextKeeper" 189 ⟨"java/lang/IllegalStateException","<init>","()V"⟩,
  .instanceMethod ⟨"java/lang/IllegalStateException","<init>","()V"⟩,
  .code ⟨"java/lang/IllegalStateException","<init>","()V"⟩ prog_13_method_1_code 1 (Option.none : Option Jvm.ClassFile.FieldType),
  .methodLink "java/lang/IllegalStateException" 1 ⟨"java/lang/RuntimeException","<init>","()V"⟩,
  .instanceMethod ⟨"java/lang/RuntimeException","<init>","()V"⟩,
  .code ⟨"java/lang/RuntimeException","<init>","()V"⟩ prog_16_method_1_code 1 (Option.none : Option Jvm.ClassFile.FieldType),
  .methodLink "java/lang/RuntimeException" 1 ⟨"java/lang/Exception","<init>","()V"⟩,
  .instanceMethod ⟨"java/lang/Exception","<init>","()V"⟩,
  .code ⟨"java/lang/Exception","<init>","()V"⟩ prog_11_method_1_code 1 (Option.none : Option Jvm.ClassFile.FieldType),
  .methodLink "java/lang/Exception" 1 ⟨"java/lang/Throwable","<init>","()V"⟩,
  .fieldLink "java/lang/Throwable" 7 "java/lang/Throwable" "cause" "Ljava/lang/Throwable;",
  .fieldLink "java/lang/Throwable" 17 "java/lang/Throwable" "stackTrace" "[Ljava/lang/StackTraceElement;",
  .fieldLink "java/lang/Throwable" 24 "java/lang/Throwable" "suppressedExceptions" "Ljava/util/List;",
  .lays "java/lang/IllegalStateException" "java/lang/Throwable" "depth" "I",
  .superclass "java/lang/IllegalStateException" "java/lang/RuntimeException",
  .classLink "TextKeeperLaw" 47 "java/util/NoSuchElementException",
  .classLink "TextKeeperLaw" 49 "java/lang/IllegalArgumentException",
  .classLink "TextKeeper" 140 "java/util/NoSuchElementException"]
def w0_12 : List Cond := [.instantiable "java/util/NoSuchElementException" 6,
  .selects "java/util/NoSuchElementException" ⟨"java/lang/Throwable","fillInStackTrace","(I)Ljava/lang/Throwable;"⟩ ⟨"java/lang/Throwable","fillInStackTrace","(I)Ljava/lang/Throwable;"⟩,
  .lays "java/util/NoSuchElementException" "java/lang/Throwable" "cause" "Ljava/lang/Throwable;",
  .lays "java/util/NoSuchElementException" "java/lang/Throwable" "stackTrace" "[Ljava/lang/StackTraceElement;",
  .lays "java/util/NoSuchElementException" "java/lang/Throwable" "suppressedExceptions" "Ljava/util/List;",
  .lays "java/util/NoSuchElementException" "java/lang/Throwable" "detailMessage" "Ljava/lang/String;",
  .lays "java/util/NoSuchElementException" "java/lang/Throwable" "backtrace" "Ljava/lang/Object;",
  .methodLink "TextKeeper" 142 ⟨"java/util/NoSuchElementException","<init>","()V"⟩,
  .instanceMethod ⟨"java/util/NoSuchElementException","<init>","()V"⟩,
  .code ⟨"java/util/NoSuchElementException","<init>","()V"⟩ prog_20_method_1_code 1 (Option.none : Option Jvm.ClassFile.FieldType),
  .methodLink "java/util/NoSuchElementException" 1 ⟨"java/lang/RuntimeException","<init>","()V"⟩,
  .lays "java/util/NoSuchElementException" "java/lang/Throwable" "depth" "I",
  .superclass "java/util/NoSuchElementException" "java/lang/RuntimeException",
  .classLink "TextKeeper" 146 "java/lang/IllegalArgumentException",
  .instantiable "java/lang/IllegalArgumentException" 6,
  .selects "java/lang/IllegalArgumentException" ⟨"java/lang/Throwable","fillInStackTrace","(I)Ljava/lang/Throwable;"⟩ ⟨"java/lang/Throwable","fillInStackTrace","(I)Ljava/lang/Throwable;"⟩,
  .lays "java/lang/IllegalArgumentException" "java/lang/Throwable" "cause" "Ljava/lang/Throwable;",
  .lays "java/lang/IllegalArgumentException" "java/lang/Throwable" "stackTrace" "[Ljava/lang/StackTraceElement;",
  .lays "java/lang/IllegalArgumentException" "java/lang/Throwable" "suppressedExceptions" "Ljava/util/List;",
  .lays "java/lang/IllegalArgumentException" "java/lang/Throwable" "detailMessage" "Ljava/lang/String;",
  .lays "java/lang/IllegalArgumentException" "java/lang/Throwable" "backtrace" "Ljava/lang/Object;",
  .methodLink "TextKeeper" 148 ⟨"java/lang/IllegalArgumentException","<init>","()V"⟩,
  .instanceMethod ⟨"java/lang/IllegalArgumentException","<init>","()V"⟩,
  .code ⟨"java/lang/IllegalArgumentException","<init>","()V"⟩ prog_12_method_1_code 1 (Option.none : Option Jvm.ClassFile.FieldType),
  .methodLink "java/lang/IllegalArgumentException" 1 ⟨"java/lang/RuntimeException","<init>","()V"⟩,
  .lays "java/lang/IllegalArgumentException" "java/lang/Throwable" "depth" "I",
  .superclass "java/lang/IllegalArgumentException" "java/lang/RuntimeException",
  .initialized R_L,
  .classLink R_L 8 R_K,
  .instantiable R_K 9,
  .methodLink R_L 75 y_K_init,
  .instanceMethod y_K_init,
  .methodLink R_L 138 y_K_start,
  .instanceMethod y_K_start,
  .selects R_K y_K_start y_K_start,
  .methodLink R_L 143 y_K_isDown,
  .instanceMethod y_K_isDown,
  .selects R_K y_K_isDown y_K_isDown,
  .methodLink R_L 79 y_L_feed,
  .static y_L_feed]
def w0_13 : List Cond := [.methodLink R_L 7 y_K_feed,
  .instanceMethod y_K_feed,
  .selects R_K y_K_feed y_K_feed,
  .methodLink R_L 85 y_L_end,
  .static y_L_end,
  .methodLink R_L 15 y_K_end,
  .instanceMethod y_K_end,
  .selects R_K y_K_end y_K_end,
  .methodLink R_L 89 y_L_make,
  .static y_L_make,
  .methodLink R_L 19 y_K_make,
  .instanceMethod y_K_make,
  .selects R_K y_K_make y_K_make,
  .methodLink R_L 93 y_L_commit,
  .static y_L_commit,
  .methodLink R_L 23 y_K_commit,
  .instanceMethod y_K_commit,
  .selects R_K y_K_commit y_K_commit,
  .methodLink R_A 310 ⟨"[B","clone","()Ljava/lang/Object;"⟩,
  .instanceMethod ⟨"java/lang/Object","clone","()Ljava/lang/Object;"⟩,
  .selects "[B" ⟨"[B","clone","()Ljava/lang/Object;"⟩ ⟨"java/lang/Object","clone","()Ljava/lang/Object;"⟩,
  .classLink R_A 311 "[B",
  .methodLink R_L 97 y_L_fetch,
  .static y_L_fetch,
  .methodLink R_L 27 y_K_fetch,
  .instanceMethod y_K_fetch,
  .selects R_K y_K_fetch y_K_fetch,
  .methodLink R_L 100 y_L_out,
  .static y_L_out,
  .methodLink R_L 30 y_K_out,
  .instanceMethod y_K_out,
  .selects R_K y_K_out y_K_out,
  .methodLink R_L 103 y_L_steps,
  .static y_L_steps,
  .methodLink R_L 34 y_K_steps,
  .instanceMethod y_K_steps,
  .selects R_K y_K_steps y_K_steps,
  .methodLink R_L 106 y_L_trim,
  .static y_L_trim,
  .methodLink R_L 37 y_K_trim]
def w0_14 : List Cond := [.instanceMethod y_K_trim,
  .selects R_K y_K_trim y_K_trim,
  .methodLink R_L 109 y_L_dropDocument,
  .static y_L_dropDocument,
  .methodLink R_L 41 y_K_dropDocument,
  .instanceMethod y_K_dropDocument,
  .selects R_K y_K_dropDocument y_K_dropDocument,
  .methodLink R_L 112 y_L_about,
  .static y_L_about,
  .methodLink R_L 44 y_K_about,
  .instanceMethod y_K_about,
  .selects R_K y_K_about y_K_about,
  .methodLink R_L 115 y_L_revision,
  .static y_L_revision,
  .methodLink R_L 51 y_K_revision,
  .instanceMethod y_K_revision,
  .selects R_K y_K_revision y_K_revision,
  .methodLink R_L 119 y_L_pieceByte,
  .static y_L_pieceByte,
  .methodLink R_L 55 y_K_pieceByte,
  .instanceMethod y_K_pieceByte,
  .selects R_K y_K_pieceByte y_K_pieceByte,
  .methodLink R_L 122 y_L_damage,
  .static y_L_damage,
  .methodLink R_L 58 y_K_damage,
  .instanceMethod y_K_damage,
  .selects R_K y_K_damage y_K_damage,
  .methodLink R_L 126 y_L_verify,
  .static y_L_verify,
  .methodLink R_L 62 y_K_verify,
  .instanceMethod y_K_verify,
  .selects R_K y_K_verify y_K_verify,
  .methodLink R_K 165 y_K_isSound,
  .instanceMethod y_K_isSound,
  .methodLink R_L 129 y_L_common,
  .static y_L_common,
  .methodLink R_L 65 y_K_common,
  .instanceMethod y_K_common,
  .selects R_K y_K_common y_K_common,
  .methodLink R_K 169 y_T_runWith]
def w0_15 : List Cond := [.methodLink R_K 173 y_T_runBackWith,
  .instanceMethod y_T_runBackWith,
  .selects R_T y_T_runBackWith y_T_runBackWith,
  .methodLink R_L 132 y_L_freeBlocks,
  .static y_L_freeBlocks,
  .methodLink R_L 69 y_K_freeBlocks,
  .instanceMethod y_K_freeBlocks,
  .selects R_K y_K_freeBlocks y_K_freeBlocks,
  .methodLink R_L 135 y_L_cutAfter,
  .static y_L_cutAfter,
  .methodLink R_L 72 y_K_cutAfter,
  .instanceMethod y_K_cutAfter,
  .selects R_K y_K_cutAfter y_K_cutAfter,
  .classLink R_L 76 R_O,
  .instantiable R_O 27,
  .methodLink R_L 78 y_O_init,
  .instanceMethod y_O_init,
  .fieldLink "TextKeeperModel" 165 "TextKeeperModel" "otherSize" "I",
  .methodLink R_L 84 y_O_feed,
  .instanceMethod y_O_feed,
  .selects R_O y_O_feed y_O_feed,
  .methodLink R_L 88 y_O_end,
  .instanceMethod y_O_end,
  .selects R_O y_O_end y_O_end,
  .methodLink R_L 92 y_O_make,
  .instanceMethod y_O_make,
  .selects R_O y_O_make y_O_make,
  .methodLink R_L 96 y_O_commit,
  .instanceMethod y_O_commit,
  .selects R_O y_O_commit y_O_commit,
  .methodLink R_L 99 y_O_fetch,
  .instanceMethod y_O_fetch,
  .selects R_O y_O_fetch y_O_fetch,
  .methodLink R_L 102 y_O_out,
  .instanceMethod y_O_out,
  .selects R_O y_O_out y_O_out,
  .methodLink R_L 105 y_O_steps,
  .instanceMethod y_O_steps,
  .selects R_O y_O_steps y_O_steps,
  .methodLink R_L 108 y_O_trim]
def w0_16 : List Cond := [.instanceMethod y_O_trim,
  .selects R_O y_O_trim y_O_trim,
  .methodLink R_L 111 y_O_dropDocument,
  .instanceMethod y_O_dropDocument,
  .selects R_O y_O_dropDocument y_O_dropDocument,
  .methodLink R_L 114 y_O_about,
  .instanceMethod y_O_about,
  .selects R_O y_O_about y_O_about,
  .methodLink R_L 118 y_O_revision,
  .instanceMethod y_O_revision,
  .selects R_O y_O_revision y_O_revision,
  .methodLink R_L 121 y_O_pieceByte,
  .instanceMethod y_O_pieceByte,
  .selects R_O y_O_pieceByte y_O_pieceByte,
  .methodLink R_L 125 y_O_damage,
  .instanceMethod y_O_damage,
  .selects R_O y_O_damage y_O_damage,
  .methodLink R_L 128 y_O_verify,
  .instanceMethod y_O_verify,
  .selects R_O y_O_verify y_O_verify,
  .methodLink R_L 131 y_O_common,
  .instanceMethod y_O_common,
  .selects R_O y_O_common y_O_common,
  .methodLink R_L 134 y_O_freeBlocks,
  .instanceMethod y_O_freeBlocks,
  .selects R_O y_O_freeBlocks y_O_freeBlocks,
  .methodLink R_L 137 y_O_cutAfter,
  .instanceMethod y_O_cutAfter,
  .selects R_O y_O_cutAfter y_O_cutAfter,
  .methodLink R_L 142 y_O_start,
  .instanceMethod y_O_start,
  .selects R_O y_O_start y_O_start,
  .methodLink R_L 146 y_O_isDown,
  .instanceMethod y_O_isDown,
  .selects R_O y_O_isDown y_O_isDown,
  .code y_K_init prog_1_method_1_code 1 none,
  .code y_K_start prog_1_method_19_code 1 (some .boolean),
  .code y_K_isDown prog_1_method_20_code 1 (some .boolean),
  .codeWith y_L_feed method_3_code 8 (some .int) [(0, 23, 26, 13)],
  .code y_K_feed prog_1_method_2_code 6 (some .boolean)]
def w0_17 : List Cond := [.codeWith y_L_end method_4_code 4 (some .int) [(0, 16, 19, 13)],
  .code y_K_end prog_1_method_3_code 2 (some .boolean),
  .codeWith y_L_make method_5_code 3 (some .int) [(0, 8, 11, 13)],
  .code y_K_make prog_1_method_4_code 2 (some .int),
  .codeWith y_L_commit method_6_code 5 (some .int) [(0, 10, 13, 13)],
  .code y_K_commit prog_1_method_5_code 7 (some .int),
  .codeWith y_L_fetch method_7_code 5 (some .int) [(0, 10, 13, 13)],
  .code y_K_fetch prog_1_method_6_code 5 (some .int),
  .codeWith y_L_out method_8_code 4 (some .int) [(0, 9, 12, 13)],
  .code y_K_out prog_1_method_7_code 2 (some .int),
  .codeWith y_L_steps method_9_code 3 (some .int) [(0, 8, 11, 13)],
  .code y_K_steps prog_1_method_8_code 1 (some .int),
  .codeWith y_L_trim method_10_code 5 (some .int) [(0, 17, 20, 13)],
  .code y_K_trim prog_1_method_9_code 4 (some .boolean),
  .codeWith y_L_dropDocument method_11_code 4 (some .int) [(0, 16, 19, 13)],
  .code y_K_dropDocument prog_1_method_10_code 2 (some .boolean),
  .codeWith y_L_about method_12_code 5 (some .int) [(0, 10, 13, 47), (0, 10, 17, 49), (0, 10, 21, 13)],
  .code y_K_about prog_1_method_11_code 4 (some .int),
  .codeWith y_L_revision method_13_code 6 (some .int) [(0, 12, 15, 47), (0, 12, 19, 49), (0, 12, 23, 13)],
  .code y_K_revision prog_1_method_12_code 7 (some .int),
  .codeWith y_L_pieceByte method_14_code 6 (some .int) [(0, 12, 15, 13)],
  .code y_K_pieceByte prog_1_method_13_code 5 (some .int),
  .codeWith y_L_damage method_15_code 7 (some .int) [(0, 21, 24, 13)],
  .code y_K_damage prog_1_method_14_code 6 (some .boolean),
  .codeWith y_L_verify method_16_code 4 (some .int) [(0, 9, 12, 13)],
  .code y_K_verify prog_1_method_15_code 4 (some .int),
  .code y_K_isSound prog_1_method_25_code 5 (some .boolean),
  .codeWith y_L_common method_17_code 7 (some .int) [(0, 14, 17, 13)],
  .code y_K_common prog_1_method_16_code 9 (some .int),
  .code y_T_runBackWith prog_7_method_10_code 5 (some .int),
  .codeWith y_L_freeBlocks method_18_code 3 (some .int) [(0, 8, 11, 13)],
  .code y_K_freeBlocks prog_1_method_17_code 1 (some .int),
  .codeWith y_L_cutAfter method_19_code 4 (some .int) [(0, 16, 19, 13)],
  .code y_K_cutAfter prog_1_method_18_code 2 (some .boolean),
  .code y_O_init prog_9_method_1_code 2 none,
  .code y_O_feed prog_9_method_5_code 8 (some .boolean),
  .code y_O_end prog_9_method_6_code 2 (some .boolean),
  .code y_O_make prog_9_method_16_code 1 (some .int),
  .code y_O_commit prog_9_method_27_code 7 (some .int),
  .code y_O_fetch prog_9_method_28_code 4 (some .int)]
def w0_18 : List Cond := [.code y_O_out prog_9_method_29_code 2 (some .int),
  .code y_O_steps prog_9_method_30_code 1 (some .int),
  .code y_O_trim prog_9_method_31_code 3 (some .boolean),
  .code y_O_dropDocument prog_9_method_32_code 2 (some .boolean),
  .code y_O_about prog_9_method_33_code 3 (some .int),
  .code y_O_revision prog_9_method_34_code 5 (some .int),
  .code y_O_pieceByte prog_9_method_35_code 5 (some .int),
  .code y_O_damage prog_9_method_36_code 6 (some .boolean),
  .code y_O_verify prog_9_method_37_code 3 (some .int),
  .code y_O_common prog_9_method_38_code 8 (some .int),
  .code y_O_freeBlocks prog_9_method_39_code 1 (some .int),
  .code y_O_cutAfter prog_9_method_40_code 2 (some .boolean),
  .code y_O_start prog_9_method_41_code 2 (some .boolean),
  .code y_O_isDown prog_9_method_42_code 1 (some .boolean),
  .fieldLink R_O 165 "TextKeeperModel" "otherSize" "I",
  .selects R_K y_K_isSound y_K_isSound,
  .arrayClass .long]
def w0 : List Cond := w0_0 ++ (w0_1 ++ (w0_2 ++ (w0_3 ++ (w0_4 ++ (w0_5 ++ (w0_6 ++ (w0_7 ++ (w0_8 ++ (w0_9 ++ (w0_10 ++ (w0_11 ++ (w0_12 ++ (w0_13 ++ (w0_14 ++ (w0_15 ++ (w0_16 ++ (w0_17 ++ (w0_18))))))))))))))))))
def nw0 : List Cond := [.fieldLinkNest R_W 23 "TextKeeper$Text" "length" "I" "TextKeeper",
  .fieldLinkNest R_M 75 "TextKeeper$Text" "length" "I" "TextKeeper",
  .methodLinkNest R_D 24 y_K_baseOf "TextKeeper",
  .fieldLinkNest R_D 28 "TextKeeper$Revision" "piece" "[B" "TextKeeper",
  .methodLinkNest R_D 32 y_K_blocksFor "TextKeeper",
  .fieldLinkNest R_M 51 "TextKeeper$Revision" "piece" "[B" "TextKeeper",
  .methodLinkNest R_M 33 y_K_baseOf "TextKeeper",
  .fieldLinkNest R_K 180 "TextKeeper$Power" "down" "Z" "TextKeeper",
  .fieldLinkNest R_K 153 "TextKeeper$Revision" "piece" "[B" "TextKeeper",
  .fieldLinkNest R_K 82 "TextKeeper$Document" "count" "I" "TextKeeper",
  .fieldLinkNest R_K 131 "TextKeeper$Text" "length" "I" "TextKeeper",
  .castable "java/lang/IllegalStateException" "java/lang/IllegalStateException",
  .declares ⟨"java/lang/RuntimeException","<init>","()V"⟩,
  .declares ⟨"java/lang/Exception","<init>","()V"⟩,
  .declares ⟨"java/lang/Throwable","<init>","()V"⟩,
  .castable "java/util/NoSuchElementException" "java/util/NoSuchElementException",
  .castable "java/lang/IllegalArgumentException" "java/lang/IllegalArgumentException",
  .fieldLinkNest R_K 143 "TextKeeper$Document" "first" "I" "TextKeeper",
  .fieldLinkNest R_K 157 "TextKeeper$Revision" "author" "I" "TextKeeper",
  .fieldLinkNest R_K 160 "TextKeeper$Revision" "sum" "I" "TextKeeper"]
def ao0 : List String := ["TextKeeper$Document", "TextKeeper$Revision"]
def nw_kind : Cond → Bool
  | .fieldLinkNest .. => true
  | .methodLinkNest .. => true
  | .declares .. => true
  | .castable .. => true
  | _ => false
theorem nw0_kind : ∀ w ∈ nw0, nw_kind w = true := by decide +kernel
theorem nw0_tab : ∀ w ∈ nw0, w.onTables = true := by decide +kernel
theorem gd_places {big : List Cond} (ws : List Cond) (ps : List Nat) (hp : ws = ps.filterMap (fun i => big[i]?)) (h : ws.all goodWord = true) : GoodIn big ws := by
  intro w hw
  have h1 := List.all_eq_true.mp h w hw
  rw [hp] at hw
  obtain ⟨i, -, hi⟩ := List.mem_filterMap.mp hw
  exact ⟨List.mem_of_getElem? hi, good_of_word h1⟩
theorem gd_both {big a b : List Cond} (ha : GoodIn big a) (hb : GoodIn big b) : GoodIn big (a ++ b) := fun w h => (List.mem_append.mp h).elim (ha w) (hb w)
set_option maxRecDepth 100000 in
set_option maxHeartbeats 4000000 in
theorem w0_ok_0 : GoodIn lw_tbl w0_0 := gd_places _ [141, 143, 145, 147, 149, 151, 153, 155, 157, 75, 77, 93, 95, 97, 99, 110, 112, 125, 127, 129, 297, 299, 301, 439, 441, 443, 654, 656, 658, 660, 662, 664, 666, 668, 670, 672, 674, 676, 678, 680] rfl (by decide +kernel)
set_option maxRecDepth 100000 in
set_option maxHeartbeats 4000000 in
theorem w0_ok_1 : GoodIn lw_tbl w0_1 := gd_places _ [682, 684, 686, 688, 690, 692, 694, 696, 698, 700, 702, 704, 706, 120, 60, 61, 121, 123, 124, 69, 80, 70, 71, 107, 108, 109, 86, 87, 65, 37, 68, 88, 67, 89, 90, 91, 92, 59, 62, 132] rfl (by decide +kernel)
set_option maxRecDepth 100000 in
set_option maxHeartbeats 4000000 in
theorem w0_ok_2 : GoodIn lw_tbl w0_2 := gd_places _ [64, 66, 133, 134, 135, 81, 82, 38, 85, 83, 84, 136, 102, 103, 39, 106, 104, 105, 137, 115, 116, 40, 119, 117, 118, 138, 139, 140, 255, 256, 257, 258, 470, 408, 407, 49, 378, 376, 377, 47] rfl (by decide +kernel)
set_option maxRecDepth 100000 in
set_option maxHeartbeats 4000000 in
theorem w0_ok_3 : GoodIn lw_tbl w0_3 := gd_places _ [387, 388, 389, 390, 392, 12, 393, 394, 358, 359, 360, 383, 385, 11, 386, 372, 373, 374, 375, 369, 370, 371, 379, 381, 10, 382, 405, 406, 365, 367, 9, 368, 395, 396, 48, 397, 649, 650, 776, 778] rfl (by decide +kernel)
set_option maxRecDepth 100000 in
set_option maxHeartbeats 4000000 in
theorem w0_ok_4 : GoodIn lw_tbl w0_4 := gd_places _ [28, 41, 779, 631, 641, 630, 640, 772, 774, 27, 775, 764, 766, 25, 767, 768, 770, 26, 771, 653, 651, 652, 639, 352, 357, 343, 345, 6, 346, 347, 248, 249, 250, 353, 355, 8, 356, 348, 350, 7] rfl (by decide +kernel)
set_option maxRecDepth 100000 in
set_option maxHeartbeats 4000000 in
theorem w0_ok_5 : GoodIn lw_tbl w0_5 := gd_places _ [351, 642, 756, 758, 23, 759, 643, 636, 752, 754, 22, 755, 339, 341, 5, 342, 430, 431, 435, 437, 289, 290, 292, 293, 295, 326, 36, 325, 411, 410, 335, 336, 337, 46, 338, 323, 267, 268, 269, 331] rfl (by decide +kernel)
set_option maxRecDepth 100000 in
set_option maxHeartbeats 4000000 in
theorem w0_ok_6 : GoodIn lw_tbl w0_6 := gd_places _ [333, 4, 334, 327, 328, 329, 330, 628, 627, 629, 632, 633, 736, 738, 18, 739, 634, 635, 780, 781, 782, 748, 750, 21, 751, 744, 746, 20, 747, 815, 816, 817, 818, 820, 33, 821, 716, 718, 16, 719] rfl (by decide +kernel)
set_option maxRecDepth 100000 in
set_option maxHeartbeats 4000000 in
theorem w0_ok_7 : GoodIn lw_tbl w0_7 := gd_places _ [646, 645, 644, 783, 785, 29, 786, 728, 730, 17, 731, 795, 797, 31, 798, 811, 813, 32, 814, 834, 836, 34, 837, 740, 742, 19, 743, 760, 762, 24, 763, 637, 638, 787, 789, 30, 790, 311, 313, 3] rfl (by decide +kernel)
set_option maxRecDepth 100000 in
set_option maxHeartbeats 4000000 in
theorem w0_ok_8 : GoodIn lw_tbl w0_8 := gd_places _ [314, 561, 180, 182, 0, 183, 247, 251, 252, 253, 254, 266, 484, 617, 618, 619, 620, 164, 165, 166, 167, 281, 282, 283, 284, 557, 559, 14, 560, 569, 570, 571, 50, 572, 277, 279, 2, 280, 285, 288] rfl (by decide +kernel)
set_option maxRecDepth 100000 in
set_option maxHeartbeats 4000000 in
theorem w0_ok_9 : GoodIn lw_tbl w0_9 := gd_places _ [286, 287, 416, 417, 418, 419, 412, 414, 13, 415, 461, 462, 463, 464, 499, 500, 501, 502, 315, 316, 317, 318, 319, 320, 321, 322, 361, 362, 363, 364, 409, 421, 422, 423, 424, 425, 426, 429, 427, 428] rfl (by decide +kernel)
set_option maxRecDepth 100000 in
set_option maxHeartbeats 4000000 in
theorem w0_ok_10 : GoodIn lw_tbl w0_10 := gd_places _ [446, 447, 448, 449, 450, 451, 452, 453, 474, 475, 476, 465, 466, 467, 468, 469, 471, 472, 51, 473, 626, 709, 710, 711, 647, 42, 43, 44, 45, 52, 53, 175, 184, 185, 193, 194, 195, 196, 197, 198] rfl (by decide +kernel)
set_option maxRecDepth 100000 in
set_option maxHeartbeats 4000000 in
theorem w0_ok_11 : GoodIn lw_tbl w0_11 := gd_places _ [199, 200, 201, 202, 203, 204, 205, 206, 207, 208, 209, 210, 212, 214, 215, 217, 218, 219, 220, 222, 223, 224, 225, 226, 227, 228, 229, 230, 231, 232, 233, 234, 236, 237, 238, 243, 246, 514, 515, 520] rfl (by decide +kernel)
set_option maxRecDepth 100000 in
set_option maxHeartbeats 4000000 in
theorem w0_ok_12 : GoodIn lw_tbl w0_12 := gd_places _ [521, 523, 524, 525, 526, 527, 528, 529, 530, 531, 532, 533, 534, 535, 536, 538, 539, 540, 541, 542, 543, 544, 545, 546, 547, 548, 549, 35, 54, 55, 56, 57, 160, 161, 162, 168, 169, 170, 172, 173] rfl (by decide +kernel)
set_option maxRecDepth 100000 in
set_option maxHeartbeats 4000000 in
theorem w0_ok_13 : GoodIn lw_tbl w0_13 := gd_places _ [176, 177, 178, 259, 260, 262, 263, 264, 270, 271, 273, 274, 275, 304, 305, 307, 308, 309, 398, 401, 402, 404, 454, 455, 457, 458, 459, 477, 478, 480, 481, 482, 485, 486, 488, 489, 490, 492, 493, 495] rfl (by decide +kernel)
set_option maxRecDepth 100000 in
set_option maxHeartbeats 4000000 in
theorem w0_ok_14 : GoodIn lw_tbl w0_14 := gd_places _ [496, 497, 504, 505, 507, 508, 509, 511, 512, 516, 517, 518, 550, 551, 553, 554, 555, 562, 563, 565, 566, 567, 573, 574, 576, 577, 578, 580, 581, 583, 584, 585, 587, 589, 591, 592, 594, 595, 596, 598] rfl (by decide +kernel)
set_option maxRecDepth 100000 in
set_option maxHeartbeats 4000000 in
theorem w0_ok_15 : GoodIn lw_tbl w0_15 := gd_places _ [599, 600, 601, 603, 604, 606, 607, 608, 610, 611, 613, 614, 615, 621, 622, 623, 624, 648, 712, 713, 714, 720, 721, 722, 724, 725, 726, 732, 733, 734, 791, 792, 793, 799, 800, 801, 803, 804, 805, 807] rfl (by decide +kernel)
set_option maxRecDepth 100000 in
set_option maxHeartbeats 4000000 in
theorem w0_ok_16 : GoodIn lw_tbl w0_16 := gd_places _ [808, 809, 822, 823, 824, 826, 827, 828, 830, 831, 832, 838, 839, 840, 842, 843, 844, 846, 847, 848, 850, 851, 852, 854, 855, 856, 858, 859, 860, 862, 863, 864, 866, 867, 868, 58, 163, 171, 174, 179] rfl (by decide +kernel)
set_option maxRecDepth 100000 in
set_option maxHeartbeats 4000000 in
theorem w0_ok_17 : GoodIn lw_tbl w0_17 := gd_places _ [261, 265, 272, 276, 306, 310, 456, 460, 479, 483, 487, 491, 494, 498, 506, 510, 513, 519, 552, 556, 564, 568, 575, 579, 582, 586, 590, 593, 597, 602, 605, 609, 612, 616, 625, 715, 723, 727, 735, 794] rfl (by decide +kernel)
set_option maxRecDepth 100000 in
set_option maxHeartbeats 4000000 in
theorem w0_ok_18 : GoodIn lw_tbl w0_18 := gd_places _ [802, 806, 810, 825, 829, 833, 841, 845, 849, 853, 857, 861, 865, 869, 648, 15, 870] rfl (by decide +kernel)
theorem w0_ok : GoodIn lw_tbl w0 := gd_both w0_ok_0 (gd_both w0_ok_1 (gd_both w0_ok_2 (gd_both w0_ok_3 (gd_both w0_ok_4 (gd_both w0_ok_5 (gd_both w0_ok_6 (gd_both w0_ok_7 (gd_both w0_ok_8 (gd_both w0_ok_9 (gd_both w0_ok_10 (gd_both w0_ok_11 (gd_both w0_ok_12 (gd_both w0_ok_13 (gd_both w0_ok_14 (gd_both w0_ok_15 (gd_both w0_ok_16 (gd_both w0_ok_17 (w0_ok_18))))))))))))))))))
theorem w0_good (w : Cond) (h : w ∈ w0) : (w.onTables && w.keeps) = true ∨ ∃ ty, w = .arrayClass ty := (w0_ok w h).2
set_option maxRecDepth 100000 in
theorem in_K : ∀ w ∈ u_ws R_K F_K 9, w ∈ w0 := by decide +kernel
theorem tk_K : ∀ k, k < 9 → parseFieldDescriptor (F_K k).2.2.1 = some (ft_K k) := by decide +kernel
theorem nk_K : ∀ a, a < 9 → ∀ b, b < 9 → a ≠ b → (F_K a).2.1 ≠ (F_K b).2.1 := by decide +kernel
theorem nw_K : ∀ j, j < 9 → defaultValue (ft_K j) = vp_V [.null, .null, .null, .null, .null, .null, .null, .int 0, .int 0] j := by decide +kernel
set_option maxRecDepth 100000 in
theorem in_T : ∀ w ∈ u_ws R_T F_T 2, w ∈ w0 := by decide +kernel
theorem tk_T : ∀ k, k < 2 → parseFieldDescriptor (F_T k).2.2.1 = some (ft_T k) := by decide +kernel
theorem nk_T : ∀ a, a < 2 → ∀ b, b < 2 → a ≠ b → (F_T a).2.1 ≠ (F_T b).2.1 := by decide +kernel
theorem nw_T : ∀ j, j < 2 → defaultValue (ft_T j) = vp_V [.null, .int 0] j := by decide +kernel
set_option maxRecDepth 100000 in
theorem in_M : ∀ w ∈ u_ws R_M F_M 4, w ∈ w0 := by decide +kernel
theorem tk_M : ∀ k, k < 4 → parseFieldDescriptor (F_M k).2.2.1 = some (ft_M k) := by decide +kernel
theorem nk_M : ∀ a, a < 4 → ∀ b, b < 4 → a ≠ b → (F_M a).2.1 ≠ (F_M b).2.1 := by decide +kernel
theorem nw_M : ∀ j, j < 4 → defaultValue (ft_M j) = vp_V [.null, .null, .null, .int 0] j := by decide +kernel
set_option maxRecDepth 100000 in
theorem in_W : ∀ w ∈ u_ws R_W F_W 2, w ∈ w0 := by decide +kernel
theorem tk_W : ∀ k, k < 2 → parseFieldDescriptor (F_W k).2.2.1 = some (ft_W k) := by decide +kernel
theorem nk_W : ∀ a, a < 2 → ∀ b, b < 2 → a ≠ b → (F_W a).2.1 ≠ (F_W b).2.1 := by decide +kernel
theorem nw_W : ∀ j, j < 2 → defaultValue (ft_W j) = vp_V [.null, .int 0] j := by decide +kernel
set_option maxRecDepth 100000 in
theorem in_P : ∀ w ∈ u_ws R_P F_P 3, w ∈ w0 := by decide +kernel
theorem tk_P : ∀ k, k < 3 → parseFieldDescriptor (F_P k).2.2.1 = some (ft_P k) := by decide +kernel
theorem nk_P : ∀ a, a < 3 → ∀ b, b < 3 → a ≠ b → (F_P a).2.1 ≠ (F_P b).2.1 := by decide +kernel
theorem nw_P : ∀ j, j < 3 → defaultValue (ft_P j) = vp_V [.int 0, .int 0, .int 0] j := by decide +kernel
set_option maxRecDepth 100000 in
theorem in_D : ∀ w ∈ u_ws R_D F_D 3, w ∈ w0 := by decide +kernel
theorem tk_D : ∀ k, k < 3 → parseFieldDescriptor (F_D k).2.2.1 = some (ft_D k) := by decide +kernel
theorem nk_D : ∀ a, a < 3 → ∀ b, b < 3 → a ≠ b → (F_D a).2.1 ≠ (F_D b).2.1 := by decide +kernel
theorem nw_D : ∀ j, j < 3 → defaultValue (ft_D j) = vp_V [.null, .int 0, .int 0] j := by decide +kernel
set_option maxRecDepth 100000 in
theorem in_V : ∀ w ∈ u_ws R_V F_V 3, w ∈ w0 := by decide +kernel
theorem tk_V : ∀ k, k < 3 → parseFieldDescriptor (F_V k).2.2.1 = some (ft_V k) := by decide +kernel
theorem nk_V : ∀ a, a < 3 → ∀ b, b < 3 → a ≠ b → (F_V a).2.1 ≠ (F_V b).2.1 := by decide +kernel
theorem nw_V : ∀ j, j < 3 → defaultValue (ft_V j) = vp_V [.null, .int 0, .int 0] j := by decide +kernel
set_option maxRecDepth 100000 in
theorem in_O : ∀ w ∈ u_ws R_O F_O 27, w ∈ w0 := by decide +kernel
theorem tk_O : ∀ k, k < 27 → parseFieldDescriptor (F_O k).2.2.1 = some (ft_O k) := by decide +kernel
theorem nk_O : ∀ a, a < 27 → ∀ b, b < 27 → a ≠ b → (F_O a).2.1 ≠ (F_O b).2.1 := by decide +kernel
theorem nw_O : ∀ j, j < 27 → defaultValue (ft_O j) = vp_V [.int 0, .int 0, .int 0, .null, .int 0, .int 0, .null, .null, .null, .null, .null, .null, .null, .null, .int 0, .null, .int 0, .null, .int 0, .int 0, .null, .int 0, .null, .int 0, .int 0, .int 0, .int 0] j := by decide +kernel
def k_K_init : List Cond := .code y_K_init prog_1_method_1_code 1 none :: w0
def k_K_about : List Cond := .code y_K_about prog_1_method_11_code 4 (some .int) :: w0
def k_K_baseOf : List Cond := .code y_K_baseOf prog_1_method_28_code 1 (some .int) :: w0
def k_K_blocksFor : List Cond := .code y_K_blocksFor prog_1_method_27_code 1 (some .int) :: w0
def k_K_commit : List Cond := .code y_K_commit prog_1_method_5_code 7 (some .int) :: w0
def k_K_common : List Cond := .code y_K_common prog_1_method_16_code 9 (some .int) :: w0
def k_K_countFree : List Cond := .code y_K_countFree prog_1_method_26_code 6 (some .int) :: w0
def k_K_cutAfter : List Cond := .code y_K_cutAfter prog_1_method_18_code 2 (some .boolean) :: w0
def k_K_damage : List Cond := .code y_K_damage prog_1_method_14_code 6 (some .boolean) :: w0
def k_K_documentAt : List Cond := .code y_K_documentAt prog_1_method_23_code 2 (some (.object "TextKeeper$Document")) :: w0
def k_K_dropDocument : List Cond := .code y_K_dropDocument prog_1_method_10_code 2 (some .boolean) :: w0
def k_K_end : List Cond := .code y_K_end prog_1_method_3_code 2 (some .boolean) :: w0
def k_K_feed : List Cond := .code y_K_feed prog_1_method_2_code 6 (some .boolean) :: w0
def k_K_fetch : List Cond := .code y_K_fetch prog_1_method_6_code 5 (some .int) :: w0
def k_K_freeBlocks : List Cond := .code y_K_freeBlocks prog_1_method_17_code 1 (some .int) :: w0
def k_K_isDown : List Cond := .code y_K_isDown prog_1_method_20_code 1 (some .boolean) :: w0
def k_K_isSound : List Cond := .code y_K_isSound prog_1_method_25_code 5 (some .boolean) :: w0
def k_K_keptRevision : List Cond := .code y_K_keptRevision prog_1_method_24_code 4 (some (.object "TextKeeper$Revision")) :: w0
def k_K_make : List Cond := .code y_K_make prog_1_method_4_code 2 (some .int) :: w0
def k_K_needPower : List Cond := .code y_K_needPower prog_1_method_21_code 1 none :: w0
def k_K_out : List Cond := .code y_K_out prog_1_method_7_code 2 (some .int) :: w0
def k_K_pieceByte : List Cond := .code y_K_pieceByte prog_1_method_13_code 5 (some .int) :: w0
def k_K_revision : List Cond := .code y_K_revision prog_1_method_12_code 7 (some .int) :: w0
def k_K_spendWrites : List Cond := .code y_K_spendWrites prog_1_method_22_code 2 none :: w0
def k_K_start : List Cond := .code y_K_start prog_1_method_19_code 1 (some .boolean) :: w0
def k_K_steps : List Cond := .code y_K_steps prog_1_method_8_code 1 (some .int) :: w0
def k_K_trim : List Cond := .code y_K_trim prog_1_method_9_code 4 (some .boolean) :: w0
def k_K_verify : List Cond := .code y_K_verify prog_1_method_15_code 4 (some .int) :: w0
def k_D_init : List Cond := .code y_D_init prog_2_method_1_code 1 none :: w0
def k_D_add : List Cond := .code y_D_add prog_2_method_6_code 2 none :: w0
def k_D_canBeAsked : List Cond := .code y_D_canBeAsked prog_2_method_4_code 2 (some .boolean) :: w0
def k_D_countBlocks : List Cond := .code y_D_countBlocks prog_2_method_8_code 3 (some .int) :: w0
def k_D_cutBefore : List Cond := .code y_D_cutBefore prog_2_method_7_code 4 none :: w0
def k_D_isFull : List Cond := .code y_D_isFull prog_2_method_2_code 1 (some .boolean) :: w0
def k_D_keptAt : List Cond := .code y_D_keptAt prog_2_method_5_code 2 (some (.object "TextKeeper$Revision")) :: w0
def k_D_newest : List Cond := .code y_D_newest prog_2_method_3_code 1 (some .int) :: w0
def k_M_init : List Cond := .code y_M_init prog_3_method_1_code 1 none :: w0
def k_M_copy : List Cond := .code y_M_copy prog_3_method_7_code 4 (some .boolean) :: w0
def k_M_insert : List Cond := .code y_M_insert prog_3_method_6_code 3 (some .boolean) :: w0
def k_M_makeAgain : List Cond := .code y_M_makeAgain prog_3_method_3_code 6 (some (.object "TextKeeper$Text")) :: w0
def k_M_makeBase : List Cond := .code y_M_makeBase prog_3_method_2_code 3 (some (.object "TextKeeper$Text")) :: w0
def k_M_makeNext : List Cond := .code y_M_makeNext prog_3_method_4_code 7 (some .boolean) :: w0
def k_M_obeyCommand : List Cond := .code y_M_obeyCommand prog_3_method_5_code 3 (some .boolean) :: w0
def k_M_readNumber : List Cond := .code y_M_readNumber prog_3_method_8_code 4 (some .int) :: w0
def k_W_init : List Cond := .code y_W_init prog_4_method_1_code 1 none :: w0
def k_W_digitsOf : List Cond := .code y_W_digitsOf prog_4_method_7_code 3 (some .int) :: w0
def k_W_pieceOf : List Cond := .code y_W_pieceOf prog_4_method_2_code 3 (some (.array .byte)) :: w0
def k_W_placeOfLongest : List Cond := .code y_W_placeOfLongest prog_4_method_4_code 7 (some .int) :: w0
def k_W_writeByte : List Cond := .code y_W_writeByte prog_4_method_8_code 2 none :: w0
def k_W_writeDifferences : List Cond := .code y_W_writeDifferences prog_4_method_3_code 7 none :: w0
def k_W_writeInsert : List Cond := .code y_W_writeInsert prog_4_method_5_code 5 none :: w0
def k_W_writeNumber : List Cond := .code y_W_writeNumber prog_4_method_6_code 4 none :: w0
def k_P_init : List Cond := .code y_P_init prog_5_method_1_code 1 none :: w0
def k_P_comeBack : List Cond := .code y_P_comeBack prog_5_method_3_code 1 none :: w0
def k_P_goAfter : List Cond := .code y_P_goAfter prog_5_method_2_code 2 none :: w0
def k_P_lastsFor : List Cond := .code y_P_lastsFor prog_5_method_4_code 2 (some .boolean) :: w0
def k_V_init : List Cond := .code y_V_init prog_6_method_1_code 4 none :: w0
def k_V_hasByte : List Cond := .code y_V_hasByte prog_6_method_2_code 2 (some .boolean) :: w0
def k_T_init : List Cond := .code y_T_init prog_7_method_1_code 1 none :: w0
def k_T_addByte : List Cond := .code y_T_addByte prog_7_method_4_code 2 none :: w0
def k_T_addInt : List Cond := .code y_T_addInt prog_7_method_5_code 3 none :: w0
def k_T_become : List Cond := .code y_T_become prog_7_method_7_code 2 none :: w0
def k_T_byteAt : List Cond := .code y_T_byteAt prog_7_method_2_code 2 (some .int) :: w0
def k_T_hasRoom : List Cond := .code y_T_hasRoom prog_7_method_3_code 2 (some .boolean) :: w0
def k_T_runBackWith : List Cond := .code y_T_runBackWith prog_7_method_10_code 5 (some .int) :: w0
def k_T_runWith : List Cond := .code y_T_runWith prog_7_method_9_code 6 (some .int) :: w0
def k_T_shorten : List Cond := .code y_T_shorten prog_7_method_6_code 2 (some .boolean) :: w0
def k_T_sum : List Cond := .code y_T_sum prog_7_method_8_code 3 (some .int) :: w0
def k_L_about : List Cond := .codeWith y_L_about method_12_code 5 (some .int) [(0, 10, 13, 47), (0, 10, 17, 49), (0, 10, 21, 13)] :: w0
def k_L_commit : List Cond := .codeWith y_L_commit method_6_code 5 (some .int) [(0, 10, 13, 13)] :: w0
def k_L_common : List Cond := .codeWith y_L_common method_17_code 7 (some .int) [(0, 14, 17, 13)] :: w0
def k_L_cutAfter : List Cond := .codeWith y_L_cutAfter method_19_code 4 (some .int) [(0, 16, 19, 13)] :: w0
def k_L_damage : List Cond := .codeWith y_L_damage method_15_code 7 (some .int) [(0, 21, 24, 13)] :: w0
def k_L_dropDocument : List Cond := .codeWith y_L_dropDocument method_11_code 4 (some .int) [(0, 16, 19, 13)] :: w0
def k_L_end : List Cond := .codeWith y_L_end method_4_code 4 (some .int) [(0, 16, 19, 13)] :: w0
def k_L_feed : List Cond := .codeWith y_L_feed method_3_code 8 (some .int) [(0, 23, 26, 13)] :: w0
def k_L_fetch : List Cond := .codeWith y_L_fetch method_7_code 5 (some .int) [(0, 10, 13, 13)] :: w0
def k_L_freeBlocks : List Cond := .codeWith y_L_freeBlocks method_18_code 3 (some .int) [(0, 8, 11, 13)] :: w0
def k_L_make : List Cond := .codeWith y_L_make method_5_code 3 (some .int) [(0, 8, 11, 13)] :: w0
def k_L_out : List Cond := .codeWith y_L_out method_8_code 4 (some .int) [(0, 9, 12, 13)] :: w0
def k_L_pieceByte : List Cond := .codeWith y_L_pieceByte method_14_code 6 (some .int) [(0, 12, 15, 13)] :: w0
def k_L_revision : List Cond := .codeWith y_L_revision method_13_code 6 (some .int) [(0, 12, 15, 47), (0, 12, 19, 49), (0, 12, 23, 13)] :: w0
def k_L_steps : List Cond := .codeWith y_L_steps method_9_code 3 (some .int) [(0, 8, 11, 13)] :: w0
def k_L_trim : List Cond := .codeWith y_L_trim method_10_code 5 (some .int) [(0, 17, 20, 13)] :: w0
def k_L_verify : List Cond := .codeWith y_L_verify method_16_code 4 (some .int) [(0, 9, 12, 13)] :: w0
def k_O_init : List Cond := .code y_O_init prog_9_method_1_code 2 none :: w0
def k_O_about : List Cond := .code y_O_about prog_9_method_33_code 3 (some .int) :: w0
def k_O_again : List Cond := .code y_O_again prog_9_method_20_code 5 (some .boolean) :: w0
def k_O_begins : List Cond := .code y_O_begins prog_9_method_10_code 4 (some .int) :: w0
def k_O_blocks : List Cond := .code y_O_blocks prog_9_method_11_code 1 (some .int) :: w0
def k_O_cleans : List Cond := .code y_O_cleans prog_9_method_15_code 5 none :: w0
def k_O_command : List Cond := .code y_O_command prog_9_method_18_code 5 (some .boolean) :: w0
def k_O_commit : List Cond := .code y_O_commit prog_9_method_27_code 7 (some .int) :: w0
def k_O_common : List Cond := .code y_O_common prog_9_method_38_code 8 (some .int) :: w0
def k_O_cutAfter : List Cond := .code y_O_cutAfter prog_9_method_40_code 2 (some .boolean) :: w0
def k_O_damage : List Cond := .code y_O_damage prog_9_method_36_code 6 (some .boolean) :: w0
def k_O_drop : List Cond := .code y_O_drop prog_9_method_13_code 5 none :: w0
def k_O_dropDocument : List Cond := .code y_O_dropDocument prog_9_method_32_code 2 (some .boolean) :: w0
def k_O_end : List Cond := .code y_O_end prog_9_method_6_code 2 (some .boolean) :: w0
def k_O_feed : List Cond := .code y_O_feed prog_9_method_5_code 8 (some .boolean) :: w0
def k_O_fetch : List Cond := .code y_O_fetch prog_9_method_28_code 4 (some .int) :: w0
def k_O_free : List Cond := .code y_O_free prog_9_method_12_code 3 (some .int) :: w0
def k_O_freeBlocks : List Cond := .code y_O_freeBlocks prog_9_method_39_code 1 (some .int) :: w0
def k_O_inserts : List Cond := .code y_O_inserts prog_9_method_23_code 4 none :: w0
def k_O_isAsked : List Cond := .code y_O_isAsked prog_9_method_8_code 3 (some .boolean) :: w0
def k_O_isDocument : List Cond := .code y_O_isDocument prog_9_method_7_code 2 (some .boolean) :: w0
def k_O_isDown : List Cond := .code y_O_isDown prog_9_method_42_code 1 (some .boolean) :: w0
def k_O_isUnder : List Cond := .code y_O_isUnder prog_9_method_14_code 3 (some .boolean) :: w0
def k_O_kept : List Cond := .code y_O_kept prog_9_method_9_code 3 (some .int) :: w0
def k_O_make : List Cond := .code y_O_make prog_9_method_16_code 1 (some .int) :: w0
def k_O_makes : List Cond := .code y_O_makes prog_9_method_19_code 3 (some .boolean) :: w0
def k_O_number : List Cond := .code y_O_number prog_9_method_17_code 3 (some .boolean) :: w0
def k_O_out : List Cond := .code y_O_out prog_9_method_29_code 2 (some .int) :: w0
def k_O_pieceByte : List Cond := .code y_O_pieceByte prog_9_method_35_code 5 (some .int) :: w0
def k_O_pieces : List Cond := .code y_O_pieces prog_9_method_25_code 7 none :: w0
def k_O_put : List Cond := .code y_O_put prog_9_method_21_code 2 none :: w0
def k_O_putNumber : List Cond := .code y_O_putNumber prog_9_method_22_code 3 none :: w0
def k_O_revision : List Cond := .code y_O_revision prog_9_method_34_code 5 (some .int) :: w0
def k_O_run : List Cond := .code y_O_run prog_9_method_24_code 4 (some .int) :: w0
def k_O_runs : List Cond := .code y_O_runs prog_9_method_3_code 2 (some .boolean) :: w0
def k_O_start : List Cond := .code y_O_start prog_9_method_41_code 2 (some .boolean) :: w0
def k_O_steps : List Cond := .code y_O_steps prog_9_method_30_code 1 (some .int) :: w0
def k_O_sum : List Cond := .code y_O_sum prog_9_method_26_code 5 (some .int) :: w0
def k_O_trim : List Cond := .code y_O_trim prog_9_method_31_code 3 (some .boolean) :: w0
def k_O_verify : List Cond := .code y_O_verify prog_9_method_37_code 3 (some .int) :: w0
def k_O_writes : List Cond := .code y_O_writes prog_9_method_4_code 2 (some .boolean) :: w0
def k_I_bitCount : List Cond := .code y_I_bitCount prog_14_method_49_code 1 (some .int) :: w0
def k_A_copyOf : List Cond := .code y_A_copyOf prog_19_method_121_code 3 (some (.array .byte)) :: w0
