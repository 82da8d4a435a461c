/-! the words that all contracts share, the nest mates' words, facts on the tables -/
def w0_0 : List Cond := [.laysFinal "TextKeeper" "TextKeeper" "documents" "[LTextKeeper$Document;",
  .laysFinal "TextKeeper" "TextKeeper" "buffer" "LTextKeeper$Text;",
  .laysFinal "TextKeeper" "TextKeeper" "fetched" "LTextKeeper$Text;",
  .laysFinal "TextKeeper" "TextKeeper" "compared" "LTextKeeper$Text;",
  .laysFinal "TextKeeper" "TextKeeper" "maker" "LTextKeeper$Maker;",
  .laysFinal "TextKeeper" "TextKeeper" "writer" "LTextKeeper$PieceWriter;",
  .laysFinal "TextKeeper" "TextKeeper" "power" "LTextKeeper$Power;",
  .lays "TextKeeper" "TextKeeper" "madeDocuments" "I",
  .lays "TextKeeper" "TextKeeper" "fetchedSteps" "I",
  .laysFinal "TextKeeper$Text" "TextKeeper$Text" "bytes" "[B",
  .lays "TextKeeper$Text" "TextKeeper$Text" "length" "I",
  .lays "TextKeeper$Maker" "TextKeeper$Maker" "base" "LTextKeeper$Text;",
  .lays "TextKeeper$Maker" "TextKeeper$Maker" "text" "LTextKeeper$Text;",
  .lays "TextKeeper$Maker" "TextKeeper$Maker" "piece" "[B",
  .lays "TextKeeper$Maker" "TextKeeper$Maker" "at" "I",
  .laysFinal "TextKeeper$PieceWriter" "TextKeeper$PieceWriter" "row" "[B",
  .lays "TextKeeper$PieceWriter" "TextKeeper$PieceWriter" "length" "I",
  .lays "TextKeeper$Power" "TextKeeper$Power" "down" "Z",
  .lays "TextKeeper$Power" "TextKeeper$Power" "going" "Z",
  .lays "TextKeeper$Power" "TextKeeper$Power" "writesLeft" "I",
  .laysFinal "TextKeeper$Document" "TextKeeper$Document" "revisions" "[LTextKeeper$Revision;",
  .lays "TextKeeper$Document" "TextKeeper$Document" "first" "I",
  .lays "TextKeeper$Document" "TextKeeper$Document" "count" "I",
  .laysFinal "TextKeeper$Revision" "TextKeeper$Revision" "piece" "[B",
  .laysFinal "TextKeeper$Revision" "TextKeeper$Revision" "author" "I",
  .laysFinal "TextKeeper$Revision" "TextKeeper$Revision" "sum" "I",
  .lays "TextKeeperModel" "TextKeeperModel" "thrown" "I",
  .lays "TextKeeperModel" "TextKeeperModel" "down" "Z",
  .lays "TextKeeperModel" "TextKeeperModel" "lasts" "I",
  .laysFinal "TextKeeperModel" "TextKeeperModel" "buffer" "[B",
  .lays "TextKeeperModel" "TextKeeperModel" "size" "I",
  .lays "TextKeeperModel" "TextKeeperModel" "documents" "I",
  .laysFinal "TextKeeperModel" "TextKeeperModel" "gone" "[Z",
  .laysFinal "TextKeeperModel" "TextKeeperModel" "first" "[I",
  .laysFinal "TextKeeperModel" "TextKeeperModel" "many" "[I",
  .laysFinal "TextKeeperModel" "TextKeeperModel" "lengths" "[S",
  .laysFinal "TextKeeperModel" "TextKeeperModel" "authors" "[I",
  .laysFinal "TextKeeperModel" "TextKeeperModel" "sums" "[I",
  .laysFinal "TextKeeperModel" "TextKeeperModel" "row" "[B",
  .lays "TextKeeperModel" "TextKeeperModel" "made" "[B"]
def w0_1 : List Cond := [.lays "TextKeeperModel" "TextKeeperModel" "madeSize" "I",
  .lays "TextKeeperModel" "TextKeeperModel" "base" "[B",
  .lays "TextKeeperModel" "TextKeeperModel" "baseSize" "I",
  .laysFinal "TextKeeperModel" "TextKeeperModel" "text" "[B",
  .lays "TextKeeperModel" "TextKeeperModel" "textSize" "I",
  .lays "TextKeeperModel" "TextKeeperModel" "textSteps" "I",
  .laysFinal "TextKeeperModel" "TextKeeperModel" "other" "[B",
  .lays "TextKeeperModel" "TextKeeperModel" "otherSize" "I",
  .laysFinal "TextKeeperModel" "TextKeeperModel" "piece" "[B",
  .lays "TextKeeperModel" "TextKeeperModel" "pieceSize" "I",
  .lays "TextKeeperModel" "TextKeeperModel" "at" "I",
  .lays "TextKeeperModel" "TextKeeperModel" "end" "I",
  .lays "TextKeeperModel" "TextKeeperModel" "value" "I",
  .methodLink R_P 1 objectInit,
  .instanceMethod objectInit,
  .code objectInit ⟨#[0xb1]⟩ 1 none,
  .fieldLink R_P 7 "TextKeeper$Power" "down" "Z",
  .fieldLink R_P 13 "TextKeeper$Power" "going" "Z",
  .fieldLink R_P 16 "TextKeeper$Power" "writesLeft" "I",
  .methodLink R_T 3 objectInit,
  .arrayClass .byte,
  .fieldLink R_T 9 "TextKeeper$Text" "bytes" "[B",
  .fieldLink R_T 15 "TextKeeper$Text" "length" "I",
  .methodLink R_W 3 objectInit,
  .fieldLink R_W 9 "TextKeeper$PieceWriter" "row" "[B",
  .fieldLink R_W 15 "TextKeeper$PieceWriter" "length" "I",
  .methodLink R_M 3 objectInit,
  .classLink R_M 9 R_T,
  .instantiable R_T 2,
  .initialized R_T,
  .code y_T_init prog_7_method_1_code 1 none,
  .methodLink R_M 11 y_T_init,
  .instanceMethod y_T_init,
  .fieldLink R_M 12 "TextKeeper$Maker" "base" "LTextKeeper$Text;",
  .fieldLink R_M 18 "TextKeeper$Maker" "text" "LTextKeeper$Text;",
  .fieldLink R_M 21 "TextKeeper$Maker" "piece" "[B",
  .fieldLink R_M 25 "TextKeeper$Maker" "at" "I",
  .methodLink R_K 1 objectInit,
  .classLink R_K 9 R_D,
  .fieldLink R_K 11 "TextKeeper" "documents" "[LTextKeeper$Document;"]
def w0_2 : List Cond := [.classLink R_K 15 R_T,
  .methodLink R_K 17 y_T_init,
  .fieldLink R_K 18 "TextKeeper" "buffer" "LTextKeeper$Text;",
  .fieldLink R_K 22 "TextKeeper" "fetched" "LTextKeeper$Text;",
  .fieldLink R_K 25 "TextKeeper" "compared" "LTextKeeper$Text;",
  .classLink R_K 28 R_M,
  .instantiable R_M 4,
  .initialized R_M,
  .code y_M_init prog_3_method_1_code 1 none,
  .methodLink R_K 30 y_M_init,
  .instanceMethod y_M_init,
  .fieldLink R_K 31 "TextKeeper" "maker" "LTextKeeper$Maker;",
  .classLink R_K 35 R_W,
  .instantiable R_W 2,
  .initialized R_W,
  .code y_W_init prog_4_method_1_code 1 none,
  .methodLink R_K 37 y_W_init,
  .instanceMethod y_W_init,
  .fieldLink R_K 38 "TextKeeper" "writer" "LTextKeeper$PieceWriter;",
  .classLink R_K 42 R_P,
  .instantiable R_P 3,
  .initialized R_P,
  .code y_P_init prog_5_method_1_code 1 none,
  .methodLink R_K 44 y_P_init,
  .instanceMethod y_P_init,
  .fieldLink R_K 45 "TextKeeper" "power" "LTextKeeper$Power;",
  .fieldLink R_K 49 "TextKeeper" "madeDocuments" "I",
  .fieldLink R_K 53 "TextKeeper" "fetchedSteps" "I",
  .methodLink R_K 74 y_K_documentAt,
  .instanceMethod y_K_documentAt,
  .selects R_K y_K_documentAt y_K_documentAt,
  .initialized R_K,
  .code y_K_documentAt prog_1_method_23_code 2 (some (.object "TextKeeper$Document")),
  .methodLink R_K 56 y_K_needPower,
  .instanceMethod y_K_needPower,
  .selects R_K y_K_needPower y_K_needPower,
  .code y_K_needPower prog_1_method_21_code 1 none,
  .methodLink R_K 149 y_K_keptRevision,
  .instanceMethod y_K_keptRevision,
  .selects R_K y_K_keptRevision y_K_keptRevision]
def w0_3 : List Cond := [.code y_K_keptRevision prog_1_method_24_code 4 (some (.object "TextKeeper$Revision")),
  .methodLink R_K 134 y_T_byteAt,
  .instanceMethod y_T_byteAt,
  .selects R_T y_T_byteAt y_T_byteAt,
  .code y_T_byteAt prog_7_method_2_code 2 (some .int),
  .methodLink R_K 97 y_K_countFree,
  .instanceMethod y_K_countFree,
  .selects R_K y_K_countFree y_K_countFree,
  .code y_K_countFree prog_1_method_26_code 6 (some .int),
  .methodLink R_T 19 y_T_addByte,
  .instanceMethod y_T_addByte,
  .selects R_T y_T_addByte y_T_addByte,
  .code y_T_addByte prog_7_method_4_code 2 none,
  .methodLink R_K 59 y_T_hasRoom,
  .instanceMethod y_T_hasRoom,
  .selects R_T y_T_hasRoom y_T_hasRoom,
  .code y_T_hasRoom prog_7_method_3_code 2 (some .boolean),
  .methodLink R_K 63 y_T_addInt,
  .instanceMethod y_T_addInt,
  .selects R_T y_T_addInt y_T_addInt,
  .code y_T_addInt prog_7_method_5_code 3 none,
  .methodLink R_K 67 y_T_shorten,
  .instanceMethod y_T_shorten,
  .selects R_T y_T_shorten y_T_shorten,
  .code y_T_shorten prog_7_method_6_code 2 (some .boolean),
  .methodLink R_K 190 y_P_lastsFor,
  .instanceMethod y_P_lastsFor,
  .selects R_P y_P_lastsFor y_P_lastsFor,
  .code y_P_lastsFor prog_5_method_4_code 2 (some .boolean),
  .methodLink R_D 3 objectInit,
  .classLink R_D 9 R_V,
  .fieldLink R_D 11 "TextKeeper$Document" "revisions" "[LTextKeeper$Revision;",
  .fieldLink R_D 17 "TextKeeper$Document" "first" "I",
  .fieldLink R_D 21 "TextKeeper$Document" "count" "I",
  .methodLink R_K 70 y_K_spendWrites,
  .instanceMethod y_K_spendWrites,
  .selects R_K y_K_spendWrites y_K_spendWrites,
  .code y_K_spendWrites prog_1_method_22_code 2 none,
  .instantiable R_D 3,
  .initialized R_D]
def w0_4 : List Cond := [.code y_D_init prog_2_method_1_code 1 none,
  .methodLink R_K 73 y_D_init,
  .instanceMethod y_D_init,
  .methodLink R_K 177 y_P_goAfter,
  .instanceMethod y_P_goAfter,
  .selects R_P y_P_goAfter y_P_goAfter,
  .code y_P_goAfter prog_5_method_2_code 2 none,
  .fieldLink R_O 65 "TextKeeperModel" "down" "Z",
  .fieldLink R_O 62 "TextKeeperModel" "thrown" "I",
  .fieldLink R_O 76 "TextKeeperModel" "documents" "I",
  .methodLink R_O 79 y_O_isDocument,
  .instanceMethod y_O_isDocument,
  .selects R_O y_O_isDocument y_O_isDocument,
  .initialized R_O,
  .code y_O_isDocument prog_9_method_7_code 2 (some .boolean),
  .fieldLink R_O 9 "TextKeeperModel" "lasts" "I",
  .methodLink R_O 72 y_O_runs,
  .instanceMethod y_O_runs,
  .selects R_O y_O_runs y_O_runs,
  .code y_O_runs prog_9_method_3_code 2 (some .boolean),
  .methodLink R_O 97 y_O_writes,
  .instanceMethod y_O_writes,
  .selects R_O y_O_writes y_O_writes,
  .code y_O_writes prog_9_method_4_code 2 (some .boolean),
  .methodLink R_O 156 y_O_isAsked,
  .instanceMethod y_O_isAsked,
  .selects R_O y_O_isAsked y_O_isAsked,
  .code y_O_isAsked prog_9_method_8_code 3 (some .boolean),
  .methodLink R_O 162 y_O_kept,
  .instanceMethod y_O_kept,
  .selects R_O y_O_kept y_O_kept,
  .code y_O_kept prog_9_method_9_code 3 (some .int),
  .fieldLink R_O 50 "TextKeeperModel" "textSize" "I",
  .fieldLink R_O 53 "TextKeeperModel" "textSteps" "I",
  .fieldLink R_O 69 "TextKeeperModel" "size" "I",
  .fieldLink R_O 28 "TextKeeperModel" "lengths" "[S",
  .fieldLink R_O 13 "TextKeeperModel" "buffer" "[B",
  .methodLink R_O 1 objectInit,
  .arrayClass .boolean,
  .fieldLink R_O 17 "TextKeeperModel" "gone" "[Z"]
def w0_5 : List Cond := [.arrayClass .int,
  .fieldLink R_O 21 "TextKeeperModel" "first" "[I",
  .fieldLink R_O 25 "TextKeeperModel" "many" "[I",
  .arrayClass .short,
  .fieldLink R_O 32 "TextKeeperModel" "authors" "[I",
  .fieldLink R_O 35 "TextKeeperModel" "sums" "[I",
  .fieldLink R_O 38 "TextKeeperModel" "row" "[B",
  .fieldLink R_O 41 "TextKeeperModel" "made" "[B",
  .fieldLink R_O 44 "TextKeeperModel" "base" "[B",
  .fieldLink R_O 47 "TextKeeperModel" "text" "[B",
  .fieldLink R_O 56 "TextKeeperModel" "other" "[B",
  .fieldLink R_O 59 "TextKeeperModel" "piece" "[B",
  .methodLink R_O 148 y_O_free,
  .instanceMethod y_O_free,
  .selects R_O y_O_free y_O_free,
  .code y_O_free prog_9_method_12_code 3 (some .int),
  .initialized "java/lang/Throwable",
  .initialized "java/lang/Exception",
  .initialized "java/lang/RuntimeException",
  .initialized "java/util/NoSuchElementException",
  .lays "java/lang/Throwable" "java/lang/Throwable" "cause" "Ljava/lang/Throwable;",
  .lays "java/lang/Throwable" "java/lang/Throwable" "stackTrace" "[Ljava/lang/StackTraceElement;",
  .lays "java/lang/Throwable" "java/lang/Throwable" "suppressedExceptions" "Ljava/util/List;",
  .lays "java/lang/Throwable" "java/lang/Throwable" "detailMessage" "Ljava/lang/String;",
  .lays "java/lang/Throwable" "java/lang/Throwable" "backtrace" "Ljava/lang/Object;",
  .fieldLink "java/lang/Throwable" 198 "java/lang/Throwable" "backtrace" "Ljava/lang/Object;",
  .superclass "java/lang/Throwable" "java/lang/Object",
  .instanceMethod ⟨"java/lang/Throwable","<init>","()V"⟩,
  .code ⟨"java/lang/Throwable","<init>","()V"⟩ prog_18_method_1_code 1 (Option.none : Option Jvm.ClassFile.FieldType),
  .methodLink "java/lang/Throwable" 1 ⟨"java/lang/Object","<init>","()V"⟩,
  .fieldLink "java/lang/Throwable" 13 "java/lang/Throwable" "UNASSIGNED_STACK" "[Ljava/lang/StackTraceElement;",
  .fieldLink "java/lang/Throwable" 20 "java/lang/Throwable" "SUPPRESSED_SENTINEL" "Ljava/util/List;",
  .methodLink "java/lang/Throwable" 27 ⟨"java/lang/Throwable","fillInStackTrace","()Ljava/lang/Throwable;"⟩,
  .instanceMethod ⟨"java/lang/Throwable","fillInStackTrace","()Ljava/lang/Throwable;"⟩,
  .selects "java/util/NoSuchElementException" ⟨"java/lang/Throwable","fillInStackTrace","()Ljava/lang/Throwable;"⟩ ⟨"java/lang/Throwable","fillInStackTrace","()Ljava/lang/Throwable;"⟩,
  .codeSync ⟨"java/lang/Throwable","fillInStackTrace","()Ljava/lang/Throwable;"⟩ prog_18_method_18_code 1 (Option.some (.object "java/lang/Throwable")),
  .methodLink "java/lang/Throwable" 202 ⟨"java/lang/Throwable","fillInStackTrace","(I)Ljava/lang/Throwable;"⟩,
  .instanceMethod ⟨"java/lang/Throwable","fillInStackTrace","(I)Ljava/lang/Throwable;"⟩,
  .instantiable "java/lang/Throwable" 6,
  .native ⟨"java/lang/Throwable","fillInStackTrace","(I)Ljava/lang/Throwable;"⟩]
def w0_6 : List Cond := [.instanceMethod ⟨"java/lang/RuntimeException","<init>","()V"⟩,
  .code ⟨"java/lang/RuntimeException","<init>","()V"⟩ prog_16_method_1_code 1 (Option.none : Option Jvm.ClassFile.FieldType),
  .methodLink "java/lang/RuntimeException" 1 ⟨"java/lang/Exception","<init>","()V"⟩,
  .instanceMethod ⟨"java/lang/Exception","<init>","()V"⟩,
  .code ⟨"java/lang/Exception","<init>","()V"⟩ prog_11_method_1_code 1 (Option.none : Option Jvm.ClassFile.FieldType),
  .methodLink "java/lang/Exception" 1 ⟨"java/lang/Throwable","<init>","()V"⟩,
  .fieldLink "java/lang/Throwable" 7 "java/lang/Throwable" "cause" "Ljava/lang/Throwable;",
  .fieldLink "java/lang/Throwable" 17 "java/lang/Throwable" "stackTrace" "[Ljava/lang/StackTraceElement;",
  .fieldLink "java/lang/Throwable" 24 "java/lang/Throwable" "suppressedExceptions" "Ljava/util/List;",
  .classLink "TextKeeperLaw" 47 "java/util/NoSuchElementException",
  .classLink "TextKeeper" 140 "java/util/NoSuchElementException",
  .instantiable "java/util/NoSuchElementException" 6,
  .selects "java/util/NoSuchElementException" ⟨"java/lang/Throwable","fillInStackTrace","(I)Ljava/lang/Throwable;"⟩ ⟨"java/lang/Throwable","fillInStackTrace","(I)Ljava/lang/Throwable;"⟩,
  .lays "java/util/NoSuchElementException" "java/lang/Throwable" "cause" "Ljava/lang/Throwable;",
  .lays "java/util/NoSuchElementException" "java/lang/Throwable" "stackTrace" "[Ljava/lang/StackTraceElement;",
  .lays "java/util/NoSuchElementException" "java/lang/Throwable" "suppressedExceptions" "Ljava/util/List;",
  .lays "java/util/NoSuchElementException" "java/lang/Throwable" "detailMessage" "Ljava/lang/String;",
  .lays "java/util/NoSuchElementException" "java/lang/Throwable" "backtrace" "Ljava/lang/Object;",
  .methodLink "TextKeeper" 142 ⟨"java/util/NoSuchElementException","<init>","()V"⟩,
  .instanceMethod ⟨"java/util/NoSuchElementException","<init>","()V"⟩,
  .code ⟨"java/util/NoSuchElementException","<init>","()V"⟩ prog_20_method_1_code 1 (Option.none : Option Jvm.ClassFile.FieldType),
  .methodLink "java/util/NoSuchElementException" 1 ⟨"java/lang/RuntimeException","<init>","()V"⟩,
  .lays "java/util/NoSuchElementException" "java/lang/Throwable" "depth" "I",
  .superclass "java/util/NoSuchElementException" "java/lang/RuntimeException",
  .methodLink R_L 44 y_K_about,
  .instanceMethod y_K_about,
  .selects R_K y_K_about y_K_about,
  .code y_K_about prog_1_method_11_code 4 (some .int),
  .methodLink R_L 51 y_K_revision,
  .instanceMethod y_K_revision,
  .selects R_K y_K_revision y_K_revision,
  .code y_K_revision prog_1_method_12_code 7 (some .int),
  .methodLink R_L 7 y_K_feed,
  .instanceMethod y_K_feed,
  .selects R_K y_K_feed y_K_feed,
  .code y_K_feed prog_1_method_2_code 6 (some .boolean),
  .methodLink R_L 15 y_K_end,
  .instanceMethod y_K_end,
  .selects R_K y_K_end y_K_end,
  .code y_K_end prog_1_method_3_code 2 (some .boolean)]
def w0_7 : List Cond := [.methodLink R_L 19 y_K_make,
  .instanceMethod y_K_make,
  .selects R_K y_K_make y_K_make,
  .code y_K_make prog_1_method_4_code 2 (some .int),
  .methodLink R_L 23 y_K_commit,
  .instanceMethod y_K_commit,
  .selects R_K y_K_commit y_K_commit,
  .code y_K_commit prog_1_method_5_code 7 (some .int),
  .methodLink R_L 27 y_K_fetch,
  .instanceMethod y_K_fetch,
  .selects R_K y_K_fetch y_K_fetch,
  .code y_K_fetch prog_1_method_6_code 5 (some .int),
  .methodLink R_L 30 y_K_out,
  .instanceMethod y_K_out,
  .selects R_K y_K_out y_K_out,
  .code y_K_out prog_1_method_7_code 2 (some .int),
  .methodLink R_L 34 y_K_steps,
  .instanceMethod y_K_steps,
  .selects R_K y_K_steps y_K_steps,
  .code y_K_steps prog_1_method_8_code 1 (some .int),
  .methodLink R_L 37 y_K_trim,
  .instanceMethod y_K_trim,
  .selects R_K y_K_trim y_K_trim,
  .code y_K_trim prog_1_method_9_code 4 (some .boolean),
  .methodLink R_L 41 y_K_dropDocument,
  .instanceMethod y_K_dropDocument,
  .selects R_K y_K_dropDocument y_K_dropDocument,
  .code y_K_dropDocument prog_1_method_10_code 2 (some .boolean),
  .methodLink R_L 55 y_K_pieceByte,
  .instanceMethod y_K_pieceByte,
  .selects R_K y_K_pieceByte y_K_pieceByte,
  .code y_K_pieceByte prog_1_method_13_code 5 (some .int),
  .methodLink R_L 58 y_K_damage,
  .instanceMethod y_K_damage,
  .selects R_K y_K_damage y_K_damage,
  .code y_K_damage prog_1_method_14_code 6 (some .boolean),
  .methodLink R_L 62 y_K_verify,
  .instanceMethod y_K_verify,
  .selects R_K y_K_verify y_K_verify,
  .code y_K_verify prog_1_method_15_code 4 (some .int)]
def w0_8 : List Cond := [.methodLink R_L 65 y_K_common,
  .instanceMethod y_K_common,
  .selects R_K y_K_common y_K_common,
  .code y_K_common prog_1_method_16_code 9 (some .int),
  .methodLink R_L 69 y_K_freeBlocks,
  .instanceMethod y_K_freeBlocks,
  .selects R_K y_K_freeBlocks y_K_freeBlocks,
  .code y_K_freeBlocks prog_1_method_17_code 1 (some .int),
  .methodLink R_L 72 y_K_cutAfter,
  .instanceMethod y_K_cutAfter,
  .selects R_K y_K_cutAfter y_K_cutAfter,
  .code y_K_cutAfter prog_1_method_18_code 2 (some .boolean),
  .codeWith y_L_feed method_3_code 8 (some .int) [(0, 23, 26, 13)],
  .methodLink R_L 79 y_L_feed,
  .static y_L_feed,
  .initialized R_L,
  .methodLink R_L 84 y_O_feed,
  .instanceMethod y_O_feed,
  .selects R_O y_O_feed y_O_feed,
  .code y_O_feed prog_9_method_5_code 8 (some .boolean),
  .methodLink R_L 85 y_O_thrown,
  .instanceMethod y_O_thrown,
  .selects R_O y_O_thrown y_O_thrown,
  .code y_O_thrown prog_9_method_2_code 1 (some .int),
  .codeWith y_L_end method_4_code 4 (some .int) [(0, 16, 19, 13)],
  .methodLink R_L 88 y_L_end,
  .static y_L_end,
  .methodLink R_L 91 y_O_end,
  .instanceMethod y_O_end,
  .selects R_O y_O_end y_O_end,
  .code y_O_end prog_9_method_6_code 2 (some .boolean),
  .codeWith y_L_make method_5_code 3 (some .int) [(0, 8, 11, 13)],
  .methodLink R_L 92 y_L_make,
  .static y_L_make,
  .methodLink R_L 95 y_O_make,
  .instanceMethod y_O_make,
  .selects R_O y_O_make y_O_make,
  .code y_O_make prog_9_method_16_code 1 (some .int),
  .codeWith y_L_commit method_6_code 5 (some .int) [(0, 10, 13, 13)],
  .methodLink R_L 96 y_L_commit]
def w0_9 : List Cond := [.static y_L_commit,
  .methodLink R_L 99 y_O_commit,
  .instanceMethod y_O_commit,
  .selects R_O y_O_commit y_O_commit,
  .code y_O_commit prog_9_method_27_code 7 (some .int),
  .codeWith y_L_fetch method_7_code 5 (some .int) [(0, 10, 13, 13)],
  .methodLink R_L 100 y_L_fetch,
  .static y_L_fetch,
  .methodLink R_L 102 y_O_fetch,
  .instanceMethod y_O_fetch,
  .selects R_O y_O_fetch y_O_fetch,
  .code y_O_fetch prog_9_method_28_code 4 (some .int),
  .codeWith y_L_out method_8_code 4 (some .int) [(0, 9, 12, 13)],
  .methodLink R_L 103 y_L_out,
  .static y_L_out,
  .methodLink R_L 105 y_O_out,
  .instanceMethod y_O_out,
  .selects R_O y_O_out y_O_out,
  .code y_O_out prog_9_method_29_code 2 (some .int),
  .codeWith y_L_steps method_9_code 3 (some .int) [(0, 8, 11, 13)],
  .methodLink R_L 106 y_L_steps,
  .static y_L_steps,
  .methodLink R_L 108 y_O_steps,
  .instanceMethod y_O_steps,
  .selects R_O y_O_steps y_O_steps,
  .code y_O_steps prog_9_method_30_code 1 (some .int),
  .codeWith y_L_trim method_10_code 5 (some .int) [(0, 17, 20, 13)],
  .methodLink R_L 109 y_L_trim,
  .static y_L_trim,
  .methodLink R_L 111 y_O_trim,
  .instanceMethod y_O_trim,
  .selects R_O y_O_trim y_O_trim,
  .code y_O_trim prog_9_method_31_code 3 (some .boolean),
  .codeWith y_L_dropDocument method_11_code 4 (some .int) [(0, 16, 19, 13)],
  .methodLink R_L 112 y_L_dropDocument,
  .static y_L_dropDocument,
  .methodLink R_L 114 y_O_dropDocument,
  .instanceMethod y_O_dropDocument,
  .selects R_O y_O_dropDocument y_O_dropDocument,
  .code y_O_dropDocument prog_9_method_32_code 2 (some .boolean)]
def w0_10 : List Cond := [.codeWith y_L_about method_12_code 5 (some .int) [(0, 10, 13, 47), (0, 10, 17, 49), (0, 10, 21, 13)],
  .methodLink R_L 115 y_L_about,
  .static y_L_about,
  .methodLink R_L 117 y_O_about,
  .instanceMethod y_O_about,
  .selects R_O y_O_about y_O_about,
  .code y_O_about prog_9_method_33_code 3 (some .int),
  .codeWith y_L_revision method_13_code 6 (some .int) [(0, 12, 15, 47), (0, 12, 19, 49), (0, 12, 23, 13)],
  .methodLink R_L 118 y_L_revision,
  .static y_L_revision,
  .methodLink R_L 121 y_O_revision,
  .instanceMethod y_O_revision,
  .selects R_O y_O_revision y_O_revision,
  .code y_O_revision prog_9_method_34_code 5 (some .int),
  .codeWith y_L_pieceByte method_14_code 6 (some .int) [(0, 12, 15, 13)],
  .methodLink R_L 122 y_L_pieceByte,
  .static y_L_pieceByte,
  .methodLink R_L 124 y_O_pieceByte,
  .instanceMethod y_O_pieceByte,
  .selects R_O y_O_pieceByte y_O_pieceByte,
  .code y_O_pieceByte prog_9_method_35_code 5 (some .int),
  .codeWith y_L_damage method_15_code 7 (some .int) [(0, 21, 24, 13)],
  .methodLink R_L 125 y_L_damage,
  .static y_L_damage,
  .methodLink R_L 128 y_O_damage,
  .instanceMethod y_O_damage,
  .selects R_O y_O_damage y_O_damage,
  .code y_O_damage prog_9_method_36_code 6 (some .boolean),
  .codeWith y_L_verify method_16_code 4 (some .int) [(0, 9, 12, 13)],
  .methodLink R_L 129 y_L_verify,
  .static y_L_verify,
  .methodLink R_L 131 y_O_verify,
  .instanceMethod y_O_verify,
  .selects R_O y_O_verify y_O_verify,
  .code y_O_verify prog_9_method_37_code 3 (some .int),
  .codeWith y_L_common method_17_code 7 (some .int) [(0, 14, 17, 13)],
  .methodLink R_L 132 y_L_common,
  .static y_L_common,
  .methodLink R_L 134 y_O_common,
  .instanceMethod y_O_common]
def w0_11 : List Cond := [.selects R_O y_O_common y_O_common,
  .code y_O_common prog_9_method_38_code 8 (some .int),
  .codeWith y_L_freeBlocks method_18_code 3 (some .int) [(0, 8, 11, 13)],
  .methodLink R_L 135 y_L_freeBlocks,
  .static y_L_freeBlocks,
  .methodLink R_L 137 y_O_freeBlocks,
  .instanceMethod y_O_freeBlocks,
  .selects R_O y_O_freeBlocks y_O_freeBlocks,
  .code y_O_freeBlocks prog_9_method_39_code 1 (some .int),
  .codeWith y_L_cutAfter method_19_code 4 (some .int) [(0, 16, 19, 13)],
  .methodLink R_L 138 y_L_cutAfter,
  .static y_L_cutAfter,
  .methodLink R_L 140 y_O_cutAfter,
  .instanceMethod y_O_cutAfter,
  .selects R_O y_O_cutAfter y_O_cutAfter,
  .code y_O_cutAfter prog_9_method_40_code 2 (some .boolean),
  .methodLink R_L 141 y_K_start,
  .instanceMethod y_K_start,
  .selects R_K y_K_start y_K_start,
  .code y_K_start prog_1_method_19_code 1 (some .boolean),
  .methodLink R_L 145 y_O_start,
  .instanceMethod y_O_start,
  .selects R_O y_O_start y_O_start,
  .code y_O_start prog_9_method_41_code 2 (some .boolean),
  .methodLink R_L 146 y_K_isDown,
  .instanceMethod y_K_isDown,
  .selects R_K y_K_isDown y_K_isDown,
  .code y_K_isDown prog_1_method_20_code 1 (some .boolean),
  .methodLink R_L 149 y_O_isDown,
  .instanceMethod y_O_isDown,
  .selects R_O y_O_isDown y_O_isDown,
  .code y_O_isDown prog_9_method_42_code 1 (some .boolean),
  .classLink R_L 8 R_K,
  .instantiable R_K 9,
  .code y_K_init prog_1_method_1_code 1 none,
  .methodLink R_L 75 y_K_init,
  .instanceMethod y_K_init,
  .classLink R_L 76 R_O,
  .instantiable R_O 27,
  .code y_O_init prog_9_method_1_code 2 none]
def w0_12 : List Cond := [.methodLink R_L 78 y_O_init,
  .instanceMethod y_O_init,
  .arrayClass .long]
def w0 : List Cond := w0_0 ++ (w0_1 ++ (w0_2 ++ (w0_3 ++ (w0_4 ++ (w0_5 ++ (w0_6 ++ (w0_7 ++ (w0_8 ++ (w0_9 ++ (w0_10 ++ (w0_11 ++ (w0_12))))))))))))
def nw0 : List Cond := [.fieldLinkNest R_K 180 "TextKeeper$Power" "down" "Z" "TextKeeper",
  .declares ⟨"java/lang/RuntimeException","<init>","()V"⟩,
  .declares ⟨"java/lang/Exception","<init>","()V"⟩,
  .declares ⟨"java/lang/Throwable","<init>","()V"⟩,
  .castable "java/util/NoSuchElementException" "java/util/NoSuchElementException"]
def ao0 : List String := ["TextKeeper$Document", "TextKeeper$Revision"]
def nw_kind : Cond → Bool
  | .fieldLinkNest .. => true
  | .methodLinkNest .. => true
  | .declares .. => true
  | .castable .. => true
  | _ => false
theorem nw0_kind : ∀ w ∈ nw0, nw_kind w = true := by decide +kernel
theorem nw0_tab : ∀ w ∈ nw0, w.onTables = true := by decide +kernel
theorem gd_places {big : List Cond} (ws : List Cond) (ps : List Nat) (hp : ws = ps.filterMap (fun i => big[i]?)) (h : ws.all goodWord = true) : GoodIn big ws := by
  intro w hw
  have h1 := List.all_eq_true.mp h w hw
  rw [hp] at hw
  obtain ⟨i, -, hi⟩ := List.mem_filterMap.mp hw
  exact ⟨List.mem_of_getElem? hi, good_of_word h1⟩
theorem gd_both {big a b : List Cond} (ha : GoodIn big a) (hb : GoodIn big b) : GoodIn big (a ++ b) := fun w h => (List.mem_append.mp h).elim (ha w) (hb w)
set_option maxRecDepth 100000 in
set_option maxHeartbeats 4000000 in
theorem w0_ok_0 : GoodIn lw_tbl w0_0 := gd_places _ [141, 143, 145, 147, 149, 151, 153, 155, 157, 75, 77, 93, 95, 97, 99, 110, 112, 125, 127, 129, 297, 299, 301, 439, 441, 443, 654, 656, 658, 660, 662, 664, 666, 668, 670, 672, 674, 676, 678, 680] rfl (by decide +kernel)
set_option maxRecDepth 100000 in
set_option maxHeartbeats 4000000 in
theorem w0_ok_1 : GoodIn lw_tbl w0_1 := gd_places _ [682, 684, 686, 688, 690, 692, 694, 696, 698, 700, 702, 704, 706, 120, 60, 61, 121, 123, 124, 69, 80, 70, 71, 107, 108, 109, 86, 87, 65, 37, 68, 88, 67, 89, 90, 91, 92, 59, 62, 132] rfl (by decide +kernel)
set_option maxRecDepth 100000 in
set_option maxHeartbeats 4000000 in
theorem w0_ok_2 : GoodIn lw_tbl w0_2 := gd_places _ [64, 66, 133, 134, 135, 81, 82, 38, 85, 83, 84, 136, 102, 103, 39, 106, 104, 105, 137, 115, 116, 40, 119, 117, 118, 138, 139, 140, 311, 313, 3, 36, 314, 180, 182, 0, 183, 557, 559, 14] rfl (by decide +kernel)
set_option maxRecDepth 100000 in
set_option maxHeartbeats 4000000 in
theorem w0_ok_3 : GoodIn lw_tbl w0_3 := gd_places _ [560, 484, 358, 359, 360, 412, 414, 13, 415, 255, 256, 257, 258, 247, 248, 249, 250, 251, 252, 253, 254, 266, 267, 268, 269, 281, 282, 283, 284, 289, 290, 292, 293, 295, 277, 279, 2, 280, 285, 46] rfl (by decide +kernel)
set_option maxRecDepth 100000 in
set_option maxHeartbeats 4000000 in
theorem w0_ok_4 : GoodIn lw_tbl w0_4 := gd_places _ [288, 286, 287, 617, 618, 619, 620, 628, 627, 632, 740, 742, 18, 41, 743, 629, 720, 722, 16, 723, 732, 734, 17, 735, 799, 801, 31, 802, 838, 840, 34, 841, 645, 646, 631, 636, 630, 626, 709, 633] rfl (by decide +kernel)
set_option maxRecDepth 100000 in
set_option maxHeartbeats 4000000 in
theorem w0_ok_5 : GoodIn lw_tbl w0_5 := gd_places _ [710, 634, 635, 711, 637, 638, 639, 640, 642, 644, 647, 649, 787, 789, 29, 790, 42, 43, 44, 52, 196, 198, 200, 202, 204, 205, 206, 207, 208, 209, 210, 212, 214, 215, 218, 219, 220, 222, 223, 224] rfl (by decide +kernel)
set_option maxRecDepth 100000 in
set_option maxHeartbeats 4000000 in
theorem w0_ok_6 : GoodIn lw_tbl w0_6 := gd_places _ [229, 230, 231, 232, 233, 234, 236, 237, 238, 514, 520, 521, 523, 524, 525, 526, 527, 528, 529, 530, 531, 532, 533, 534, 516, 517, 518, 519, 553, 554, 555, 556, 176, 177, 178, 179, 262, 263, 264, 265] rfl (by decide +kernel)
set_option maxRecDepth 100000 in
set_option maxHeartbeats 4000000 in
theorem w0_ok_7 : GoodIn lw_tbl w0_7 := gd_places _ [273, 274, 275, 276, 307, 308, 309, 310, 457, 458, 459, 460, 480, 481, 482, 483, 488, 489, 490, 491, 495, 496, 497, 498, 507, 508, 509, 510, 565, 566, 567, 568, 576, 577, 578, 579, 583, 584, 585, 586] rfl (by decide +kernel)
set_option maxRecDepth 100000 in
set_option maxHeartbeats 4000000 in
theorem w0_ok_8 : GoodIn lw_tbl w0_8 := gd_places _ [594, 595, 596, 597, 606, 607, 608, 609, 613, 614, 615, 616, 174, 172, 173, 35, 716, 717, 718, 719, 712, 713, 714, 715, 261, 259, 260, 724, 725, 726, 727, 272, 270, 271, 728, 729, 730, 731, 306, 304] rfl (by decide +kernel)
set_option maxRecDepth 100000 in
set_option maxHeartbeats 4000000 in
theorem w0_ok_9 : GoodIn lw_tbl w0_9 := gd_places _ [305, 736, 737, 738, 739, 456, 454, 455, 795, 796, 797, 798, 479, 477, 478, 803, 804, 805, 806, 487, 485, 486, 807, 808, 809, 810, 494, 492, 493, 811, 812, 813, 814, 506, 504, 505, 826, 827, 828, 829] rfl (by decide +kernel)
set_option maxRecDepth 100000 in
set_option maxHeartbeats 4000000 in
theorem w0_ok_10 : GoodIn lw_tbl w0_10 := gd_places _ [513, 511, 512, 830, 831, 832, 833, 552, 550, 551, 834, 835, 836, 837, 564, 562, 563, 842, 843, 844, 845, 575, 573, 574, 846, 847, 848, 849, 582, 580, 581, 850, 851, 852, 853, 593, 591, 592, 854, 855] rfl (by decide +kernel)
set_option maxRecDepth 100000 in
set_option maxHeartbeats 4000000 in
theorem w0_ok_11 : GoodIn lw_tbl w0_11 := gd_places _ [856, 857, 605, 603, 604, 858, 859, 860, 861, 612, 610, 611, 862, 863, 864, 865, 160, 161, 162, 163, 866, 867, 868, 869, 168, 169, 170, 171, 870, 871, 872, 873, 54, 55, 58, 56, 57, 621, 622, 625] rfl (by decide +kernel)
set_option maxRecDepth 100000 in
set_option maxHeartbeats 4000000 in
theorem w0_ok_12 : GoodIn lw_tbl w0_12 := gd_places _ [623, 624, 874] rfl (by decide +kernel)
theorem w0_ok : GoodIn lw_tbl w0 := gd_both w0_ok_0 (gd_both w0_ok_1 (gd_both w0_ok_2 (gd_both w0_ok_3 (gd_both w0_ok_4 (gd_both w0_ok_5 (gd_both w0_ok_6 (gd_both w0_ok_7 (gd_both w0_ok_8 (gd_both w0_ok_9 (gd_both w0_ok_10 (gd_both w0_ok_11 (w0_ok_12))))))))))))
theorem w0_good (w : Cond) (h : w ∈ w0) : (w.onTables && w.keeps) = true ∨ ∃ ty, w = .arrayClass ty := (w0_ok w h).2
set_option maxRecDepth 100000 in
theorem in_K : ∀ w ∈ u_ws R_K F_K 9, w ∈ w0 := by decide +kernel
theorem tk_K : ∀ k, k < 9 → parseFieldDescriptor (F_K k).2.2.1 = some (ft_K k) := by decide +kernel
theorem nk_K : ∀ a, a < 9 → ∀ b, b < 9 → a ≠ b → (F_K a).2.1 ≠ (F_K b).2.1 := by decide +kernel
theorem nw_K : ∀ j, j < 9 → defaultValue (ft_K j) = vp_V [.null, .null, .null, .null, .null, .null, .null, .int 0, .int 0] j := by decide +kernel
set_option maxRecDepth 100000 in
theorem in_T : ∀ w ∈ u_ws R_T F_T 2, w ∈ w0 := by decide +kernel
theorem tk_T : ∀ k, k < 2 → parseFieldDescriptor (F_T k).2.2.1 = some (ft_T k) := by decide +kernel
theorem nk_T : ∀ a, a < 2 → ∀ b, b < 2 → a ≠ b → (F_T a).2.1 ≠ (F_T b).2.1 := by decide +kernel
theorem nw_T : ∀ j, j < 2 → defaultValue (ft_T j) = vp_V [.null, .int 0] j := by decide +kernel
set_option maxRecDepth 100000 in
theorem in_M : ∀ w ∈ u_ws R_M F_M 4, w ∈ w0 := by decide +kernel
theorem tk_M : ∀ k, k < 4 → parseFieldDescriptor (F_M k).2.2.1 = some (ft_M k) := by decide +kernel
theorem nk_M : ∀ a, a < 4 → ∀ b, b < 4 → a ≠ b → (F_M a).2.1 ≠ (F_M b).2.1 := by decide +kernel
theorem nw_M : ∀ j, j < 4 → defaultValue (ft_M j) = vp_V [.null, .null, .null, .int 0] j := by decide +kernel
set_option maxRecDepth 100000 in
theorem in_W : ∀ w ∈ u_ws R_W F_W 2, w ∈ w0 := by decide +kernel
theorem tk_W : ∀ k, k < 2 → parseFieldDescriptor (F_W k).2.2.1 = some (ft_W k) := by decide +kernel
theorem nk_W : ∀ a, a < 2 → ∀ b, b < 2 → a ≠ b → (F_W a).2.1 ≠ (F_W b).2.1 := by decide +kernel
theorem nw_W : ∀ j, j < 2 → defaultValue (ft_W j) = vp_V [.null, .int 0] j := by decide +kernel
set_option maxRecDepth 100000 in
theorem in_P : ∀ w ∈ u_ws R_P F_P 3, w ∈ w0 := by decide +kernel
theorem tk_P : ∀ k, k < 3 → parseFieldDescriptor (F_P k).2.2.1 = some (ft_P k) := by decide +kernel
theorem nk_P : ∀ a, a < 3 → ∀ b, b < 3 → a ≠ b → (F_P a).2.1 ≠ (F_P b).2.1 := by decide +kernel
theorem nw_P : ∀ j, j < 3 → defaultValue (ft_P j) = vp_V [.int 0, .int 0, .int 0] j := by decide +kernel
set_option maxRecDepth 100000 in
theorem in_D : ∀ w ∈ u_ws R_D F_D 3, w ∈ w0 := by decide +kernel
theorem tk_D : ∀ k, k < 3 → parseFieldDescriptor (F_D k).2.2.1 = some (ft_D k) := by decide +kernel
theorem nk_D : ∀ a, a < 3 → ∀ b, b < 3 → a ≠ b → (F_D a).2.1 ≠ (F_D b).2.1 := by decide +kernel
theorem nw_D : ∀ j, j < 3 → defaultValue (ft_D j) = vp_V [.null, .int 0, .int 0] j := by decide +kernel
set_option maxRecDepth 100000 in
theorem in_V : ∀ w ∈ u_ws R_V F_V 3, w ∈ w0 := by decide +kernel
theorem tk_V : ∀ k, k < 3 → parseFieldDescriptor (F_V k).2.2.1 = some (ft_V k) := by decide +kernel
theorem nk_V : ∀ a, a < 3 → ∀ b, b < 3 → a ≠ b → (F_V a).2.1 ≠ (F_V b).2.1 := by decide +kernel
theorem nw_V : ∀ j, j < 3 → defaultValue (ft_V j) = vp_V [.null, .int 0, .int 0] j := by decide +kernel
set_option maxRecDepth 100000 in
theorem in_O : ∀ w ∈ u_ws R_O F_O 27, w ∈ w0 := by decide +kernel
theorem tk_O : ∀ k, k < 27 → parseFieldDescriptor (F_O k).2.2.1 = some (ft_O k) := by decide +kernel
theorem nk_O : ∀ a, a < 27 → ∀ b, b < 27 → a ≠ b → (F_O a).2.1 ≠ (F_O b).2.1 := by decide +kernel
theorem nw_O : ∀ j, j < 27 → defaultValue (ft_O j) = vp_V [.int 0, .int 0, .int 0, .null, .int 0, .int 0, .null, .null, .null, .null, .null, .null, .null, .null, .int 0, .null, .int 0, .null, .int 0, .int 0, .null, .int 0, .null, .int 0, .int 0, .int 0, .int 0] j := by decide +kernel
def k_P_init : List Cond := .code y_P_init prog_5_method_1_code 1 none :: w0
def k_T_init : List Cond := .code y_T_init prog_7_method_1_code 1 none :: w0
def k_W_init : List Cond := .code y_W_init prog_4_method_1_code 1 none :: w0
def k_M_init : List Cond := .code y_M_init prog_3_method_1_code 1 none :: w0
def k_K_init : List Cond := .code y_K_init prog_1_method_1_code 1 none :: w0
def k_K_needPower : List Cond := .code y_K_needPower prog_1_method_21_code 1 none :: w0
def k_K_documentAt : List Cond := .code y_K_documentAt prog_1_method_23_code 2 (some (.object "TextKeeper$Document")) :: w0
def k_K_keptRevision : List Cond := .code y_K_keptRevision prog_1_method_24_code 4 (some (.object "TextKeeper$Revision")) :: w0
def k_K_commit : List Cond := .code y_K_commit prog_1_method_5_code 7 (some .int) :: w0
def k_K_fetch : List Cond := .code y_K_fetch prog_1_method_6_code 5 (some .int) :: w0
def k_K_trim : List Cond := .code y_K_trim prog_1_method_9_code 4 (some .boolean) :: w0
def k_K_dropDocument : List Cond := .code y_K_dropDocument prog_1_method_10_code 2 (some .boolean) :: w0
def k_K_pieceByte : List Cond := .code y_K_pieceByte prog_1_method_13_code 5 (some .int) :: w0
def k_K_damage : List Cond := .code y_K_damage prog_1_method_14_code 6 (some .boolean) :: w0
def k_K_verify : List Cond := .code y_K_verify prog_1_method_15_code 4 (some .int) :: w0
def k_K_common : List Cond := .code y_K_common prog_1_method_16_code 9 (some .int) :: w0
def k_T_byteAt : List Cond := .code y_T_byteAt prog_7_method_2_code 2 (some .int) :: w0
def k_K_out : List Cond := .code y_K_out prog_1_method_7_code 2 (some .int) :: w0
def k_K_steps : List Cond := .code y_K_steps prog_1_method_8_code 1 (some .int) :: w0
def k_K_countFree : List Cond := .code y_K_countFree prog_1_method_26_code 6 (some .int) :: w0
def k_K_freeBlocks : List Cond := .code y_K_freeBlocks prog_1_method_17_code 1 (some .int) :: w0
def k_K_start : List Cond := .code y_K_start prog_1_method_19_code 1 (some .boolean) :: w0
def k_K_isDown : List Cond := .code y_K_isDown prog_1_method_20_code 1 (some .boolean) :: w0
def k_T_hasRoom : List Cond := .code y_T_hasRoom prog_7_method_3_code 2 (some .boolean) :: w0
def k_T_addByte : List Cond := .code y_T_addByte prog_7_method_4_code 2 none :: w0
def k_T_addInt : List Cond := .code y_T_addInt prog_7_method_5_code 3 none :: w0
def k_K_feed : List Cond := .code y_K_feed prog_1_method_2_code 6 (some .boolean) :: w0
def k_T_shorten : List Cond := .code y_T_shorten prog_7_method_6_code 2 (some .boolean) :: w0
def k_K_end : List Cond := .code y_K_end prog_1_method_3_code 2 (some .boolean) :: w0
def k_P_lastsFor : List Cond := .code y_P_lastsFor prog_5_method_4_code 2 (some .boolean) :: w0
def k_K_spendWrites : List Cond := .code y_K_spendWrites prog_1_method_22_code 2 none :: w0
def k_D_init : List Cond := .code y_D_init prog_2_method_1_code 1 none :: w0
def k_K_make : List Cond := .code y_K_make prog_1_method_4_code 2 (some .int) :: w0
def k_P_goAfter : List Cond := .code y_P_goAfter prog_5_method_2_code 2 none :: w0
def k_K_cutAfter : List Cond := .code y_K_cutAfter prog_1_method_18_code 2 (some .boolean) :: w0
def k_O_runs : List Cond := .code y_O_runs prog_9_method_3_code 2 (some .boolean) :: w0
def k_O_thrown : List Cond := .code y_O_thrown prog_9_method_2_code 1 (some .int) :: w0
def k_O_isDocument : List Cond := .code y_O_isDocument prog_9_method_7_code 2 (some .boolean) :: w0
def k_O_isAsked : List Cond := .code y_O_isAsked prog_9_method_8_code 3 (some .boolean) :: w0
def k_O_kept : List Cond := .code y_O_kept prog_9_method_9_code 3 (some .int) :: w0
def k_O_writes : List Cond := .code y_O_writes prog_9_method_4_code 2 (some .boolean) :: w0
def k_O_make : List Cond := .code y_O_make prog_9_method_16_code 1 (some .int) :: w0
def k_O_commit : List Cond := .code y_O_commit prog_9_method_27_code 7 (some .int) :: w0
def k_O_fetch : List Cond := .code y_O_fetch prog_9_method_28_code 4 (some .int) :: w0
def k_O_trim : List Cond := .code y_O_trim prog_9_method_31_code 3 (some .boolean) :: w0
def k_O_dropDocument : List Cond := .code y_O_dropDocument prog_9_method_32_code 2 (some .boolean) :: w0
def k_O_pieceByte : List Cond := .code y_O_pieceByte prog_9_method_35_code 5 (some .int) :: w0
def k_O_damage : List Cond := .code y_O_damage prog_9_method_36_code 6 (some .boolean) :: w0
def k_O_common : List Cond := .code y_O_common prog_9_method_38_code 8 (some .int) :: w0
def k_O_about : List Cond := .code y_O_about prog_9_method_33_code 3 (some .int) :: w0
def k_O_revision : List Cond := .code y_O_revision prog_9_method_34_code 5 (some .int) :: w0
def k_O_out : List Cond := .code y_O_out prog_9_method_29_code 2 (some .int) :: w0
def k_O_steps : List Cond := .code y_O_steps prog_9_method_30_code 1 (some .int) :: w0
def k_O_start : List Cond := .code y_O_start prog_9_method_41_code 2 (some .boolean) :: w0
def k_O_isDown : List Cond := .code y_O_isDown prog_9_method_42_code 1 (some .boolean) :: w0
def k_O_end : List Cond := .code y_O_end prog_9_method_6_code 2 (some .boolean) :: w0
def k_O_cutAfter : List Cond := .code y_O_cutAfter prog_9_method_40_code 2 (some .boolean) :: w0
def k_O_init : List Cond := .code y_O_init prog_9_method_1_code 2 none :: w0
def k_O_feed : List Cond := .code y_O_feed prog_9_method_5_code 8 (some .boolean) :: w0
def k_O_free : List Cond := .code y_O_free prog_9_method_12_code 3 (some .int) :: w0
def k_O_freeBlocks : List Cond := .code y_O_freeBlocks prog_9_method_39_code 1 (some .int) :: w0
def k_O_verify : List Cond := .code y_O_verify prog_9_method_37_code 3 (some .int) :: w0
def k_K_about : List Cond := .code y_K_about prog_1_method_11_code 4 (some .int) :: w0
def k_L_about : List Cond := .codeWith y_L_about method_12_code 5 (some .int) [(0, 10, 13, 47), (0, 10, 17, 49), (0, 10, 21, 13)] :: w0
def k_K_revision : List Cond := .code y_K_revision prog_1_method_12_code 7 (some .int) :: w0
def k_L_revision : List Cond := .codeWith y_L_revision method_13_code 6 (some .int) [(0, 12, 15, 47), (0, 12, 19, 49), (0, 12, 23, 13)] :: w0
def k_L_feed : List Cond := .codeWith y_L_feed method_3_code 8 (some .int) [(0, 23, 26, 13)] :: w0
def k_L_end : List Cond := .codeWith y_L_end method_4_code 4 (some .int) [(0, 16, 19, 13)] :: w0
def k_L_make : List Cond := .codeWith y_L_make method_5_code 3 (some .int) [(0, 8, 11, 13)] :: w0
def k_L_commit : List Cond := .codeWith y_L_commit method_6_code 5 (some .int) [(0, 10, 13, 13)] :: w0
def k_L_fetch : List Cond := .codeWith y_L_fetch method_7_code 5 (some .int) [(0, 10, 13, 13)] :: w0
def k_L_out : List Cond := .codeWith y_L_out method_8_code 4 (some .int) [(0, 9, 12, 13)] :: w0
def k_L_steps : List Cond := .codeWith y_L_steps method_9_code 3 (some .int) [(0, 8, 11, 13)] :: w0
def k_L_trim : List Cond := .codeWith y_L_trim method_10_code 5 (some .int) [(0, 17, 20, 13)] :: w0
def k_L_dropDocument : List Cond := .codeWith y_L_dropDocument method_11_code 4 (some .int) [(0, 16, 19, 13)] :: w0
def k_L_pieceByte : List Cond := .codeWith y_L_pieceByte method_14_code 6 (some .int) [(0, 12, 15, 13)] :: w0
def k_L_damage : List Cond := .codeWith y_L_damage method_15_code 7 (some .int) [(0, 21, 24, 13)] :: w0
def k_L_verify : List Cond := .codeWith y_L_verify method_16_code 4 (some .int) [(0, 9, 12, 13)] :: w0
def k_L_common : List Cond := .codeWith y_L_common method_17_code 7 (some .int) [(0, 14, 17, 13)] :: w0
def k_L_freeBlocks : List Cond := .codeWith y_L_freeBlocks method_18_code 3 (some .int) [(0, 8, 11, 13)] :: w0
def k_L_cutAfter : List Cond := .codeWith y_L_cutAfter method_19_code 4 (some .int) [(0, 16, 19, 13)] :: w0
