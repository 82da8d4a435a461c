section
/-! the words that all contracts share, the nest mates' words, facts on the tables -/
def w0_0 : List Cond := [.initialized "java/lang/Throwable",
  .initialized "java/lang/Exception",
  .initialized "java/lang/RuntimeException",
  .initialized "java/lang/IllegalStateException",
  .initialized "java/util/NoSuchElementException",
  .initialized "java/lang/IllegalArgumentException",
  .classLink "TextKeeperLaw" 13 "java/lang/IllegalStateException",
  .classLink "TextKeeper" 187 "java/lang/IllegalStateException",
  .instantiable "java/lang/IllegalStateException" 6,
  .selects "java/lang/IllegalStateException" ⟨"java/lang/Throwable","fillInStackTrace","(I)Ljava/lang/Throwable;"⟩ ⟨"java/lang/Throwable","fillInStackTrace","(I)Ljava/lang/Throwable;"⟩,
  .selects "java/lang/IllegalStateException" ⟨"java/lang/Throwable","fillInStackTrace","()Ljava/lang/Throwable;"⟩ ⟨"java/lang/Throwable","fillInStackTrace","()Ljava/lang/Throwable;"⟩,
  .lays "java/lang/IllegalStateException" "java/lang/Throwable" "cause" "Ljava/lang/Throwable;",
  .lays "java/lang/Throwable" "java/lang/Throwable" "cause" "Ljava/lang/Throwable;",
  .lays "java/lang/IllegalStateException" "java/lang/Throwable" "stackTrace" "[Ljava/lang/StackTraceElement;",
  .lays "java/lang/Throwable" "java/lang/Throwable" "stackTrace" "[Ljava/lang/StackTraceElement;",
  .lays "java/lang/IllegalStateException" "java/lang/Throwable" "suppressedExceptions" "Ljava/util/List;",
  .lays "java/lang/Throwable" "java/lang/Throwable" "suppressedExceptions" "Ljava/util/List;",
  .lays "java/lang/IllegalStateException" "java/lang/Throwable" "detailMessage" "Ljava/lang/String;",
  .lays "java/lang/Throwable" "java/lang/Throwable" "detailMessage" "Ljava/lang/String;",
  .lays "java/lang/IllegalStateException" "java/lang/Throwable" "backtrace" "Ljava/lang/Object;",
  .lays "java/lang/Throwable" "java/lang/Throwable" "backtrace" "Ljava/lang/Object;",
  .fieldLink "java/lang/Throwable" 198 "java/lang/Throwable" "backtrace" "Ljava/lang/Object;",
  .superclass "java/lang/Throwable" "java/lang/Object",
  .instanceMethod ⟨"java/lang/Throwable","<init>","()V"⟩,
  .code ⟨"java/lang/Throwable","<init>","()V"⟩ prog_18_method_1_code 1 (Option.none : Option Jvm.ClassFile.FieldType),
  .methodLink "java/lang/Throwable" 1 ⟨"java/lang/Object","<init>","()V"⟩,
  .fieldLink "java/lang/Throwable" 13 "java/lang/Throwable" "UNASSIGNED_STACK" "[Ljava/lang/StackTraceElement;",
  .fieldLink "java/lang/Throwable" 20 "java/lang/Throwable" "SUPPRESSED_SENTINEL" "Ljava/util/List;",
  .methodLink "java/lang/Throwable" 27 ⟨"java/lang/Throwable","fillInStackTrace","()Ljava/lang/Throwable;"⟩,
  .instanceMethod ⟨"java/lang/Throwable","fillInStackTrace","()Ljava/lang/Throwable;"⟩,
  .selects "java/lang/IllegalArgumentException" ⟨"java/lang/Throwable","fillInStackTrace","()Ljava/lang/Throwable;"⟩ ⟨"java/lang/Throwable","fillInStackTrace","()Ljava/lang/Throwable;"⟩,
  .selects "java/util/NoSuchElementException" ⟨"java/lang/Throwable","fillInStackTrace","()Ljava/lang/Throwable;"⟩ ⟨"java/lang/Throwable","fillInStackTrace","()Ljava/lang/Throwable;"⟩,
  .codeSync ⟨"java/lang/Throwable","fillInStackTrace","()Ljava/lang/Throwable;"⟩ prog_18_method_18_code 1 (Option.some (.object "java/lang/Throwable")),
  .methodLink "java/lang/Throwable" 202 ⟨"java/lang/Throwable","fillInStackTrace","(I)Ljava/lang/Throwable;"⟩,
  .instanceMethod ⟨"java/lang/Throwable","fillInStackTrace","(I)Ljava/lang/Throwable;"⟩,
  .instantiable "java/lang/Throwable" 6,
  .native ⟨"java/lang/Throwable","fillInStackTrace","(I)Ljava/lang/Throwable;"⟩,
  .methodLink "TextKeeper" 189 ⟨"java/lang/IllegalStateException","<init>","()V"⟩,
  .instanceMethod ⟨"java/lang/IllegalStateException","<init>","()V"⟩,
  .code ⟨"java/lang/IllegalStateException","<init>","()V"⟩ prog_13_method_1_code 1 (Option.none : Option Jvm.ClassFile.FieldType)]
def w0_1 : List Cond := [.methodLink "java/lang/IllegalStateException" 1 ⟨"java/lang/RuntimeException","<init>","()V"⟩,
  .instanceMethod ⟨"java/lang/RuntimeException","<init>","()V"⟩,
  .code ⟨"java/lang/RuntimeException","<init>","()V"⟩ prog_16_method_1_code 1 (Option.none : Option Jvm.ClassFile.FieldType),
  .methodLink "java/lang/RuntimeException" 1 ⟨"java/lang/Exception","<init>","()V"⟩,
  .instanceMethod ⟨"java/lang/Exception","<init>","()V"⟩,
  .code ⟨"java/lang/Exception","<init>","()V"⟩ prog_11_method_1_code 1 (Option.none : Option Jvm.ClassFile.FieldType),
  .methodLink "java/lang/Exception" 1 ⟨"java/lang/Throwable","<init>","()V"⟩,
  .fieldLink "java/lang/Throwable" 7 "java/lang/Throwable" "cause" "Ljava/lang/Throwable;",
  .fieldLink "java/lang/Throwable" 17 "java/lang/Throwable" "stackTrace" "[Ljava/lang/StackTraceElement;",
  .fieldLink "java/lang/Throwable" 24 "java/lang/Throwable" "suppressedExceptions" "Ljava/util/List;",
  .lays "java/lang/IllegalStateException" "java/lang/Throwable" "depth" "I",
  .superclass "java/lang/IllegalStateException" "java/lang/RuntimeException",
  .classLink "TextKeeperLaw" 47 "java/util/NoSuchElementException",
  .classLink "TextKeeperLaw" 49 "java/lang/IllegalArgumentException",
  .classLink "TextKeeper" 140 "java/util/NoSuchElementException",
  .instantiable "java/util/NoSuchElementException" 6,
  .selects "java/util/NoSuchElementException" ⟨"java/lang/Throwable","fillInStackTrace","(I)Ljava/lang/Throwable;"⟩ ⟨"java/lang/Throwable","fillInStackTrace","(I)Ljava/lang/Throwable;"⟩,
  .lays "java/util/NoSuchElementException" "java/lang/Throwable" "cause" "Ljava/lang/Throwable;",
  .lays "java/util/NoSuchElementException" "java/lang/Throwable" "stackTrace" "[Ljava/lang/StackTraceElement;",
  .lays "java/util/NoSuchElementException" "java/lang/Throwable" "suppressedExceptions" "Ljava/util/List;",
  .lays "java/util/NoSuchElementException" "java/lang/Throwable" "detailMessage" "Ljava/lang/String;",
  .lays "java/util/NoSuchElementException" "java/lang/Throwable" "backtrace" "Ljava/lang/Object;",
  .methodLink "TextKeeper" 142 ⟨"java/util/NoSuchElementException","<init>","()V"⟩,
  .instanceMethod ⟨"java/util/NoSuchElementException","<init>","()V"⟩,
  .code ⟨"java/util/NoSuchElementException","<init>","()V"⟩ prog_20_method_1_code 1 (Option.none : Option Jvm.ClassFile.FieldType),
  .methodLink "java/util/NoSuchElementException" 1 ⟨"java/lang/RuntimeException","<init>","()V"⟩,
  .lays "java/util/NoSuchElementException" "java/lang/Throwable" "depth" "I",
  .superclass "java/util/NoSuchElementException" "java/lang/RuntimeException",
  .classLink "TextKeeper" 146 "java/lang/IllegalArgumentException",
  .instantiable "java/lang/IllegalArgumentException" 6,
  .selects "java/lang/IllegalArgumentException" ⟨"java/lang/Throwable","fillInStackTrace","(I)Ljava/lang/Throwable;"⟩ ⟨"java/lang/Throwable","fillInStackTrace","(I)Ljava/lang/Throwable;"⟩,
  .lays "java/lang/IllegalArgumentException" "java/lang/Throwable" "cause" "Ljava/lang/Throwable;",
  .lays "java/lang/IllegalArgumentException" "java/lang/Throwable" "stackTrace" "[Ljava/lang/StackTraceElement;",
  .lays "java/lang/IllegalArgumentException" "java/lang/Throwable" "suppressedExceptions" "Ljava/util/List;",
  .lays "java/lang/IllegalArgumentException" "java/lang/Throwable" "detailMessage" "Ljava/lang/String;",
  .lays "java/lang/IllegalArgumentException" "java/lang/Throwable" "backtrace" "Ljava/lang/Object;",
  .methodLink "TextKeeper" 148 ⟨"java/lang/IllegalArgumentException","<init>","()V"⟩,
  .instanceMethod ⟨"java/lang/IllegalArgumentException","<init>","()V"⟩,
  .code ⟨"java/lang/IllegalArgumentException","<init>","()V"⟩ prog_12_method_1_code 1 (Option.none : Option Jvm.ClassFile.FieldType),
  .methodLink "java/lang/IllegalArgumentException" 1 ⟨"java/lang/RuntimeException","<init>","()V"⟩]
def w0_2 : List Cond := [.lays "java/lang/IllegalArgumentException" "java/lang/Throwable" "depth" "I",
  .superclass "java/lang/IllegalArgumentException" "java/lang/RuntimeException",
  .laysFinal "TextKeeper" "TextKeeper" "documents" "[LTextKeeper$Document;",
  .laysFinal "TextKeeper" "TextKeeper" "buffer" "LTextKeeper$Text;",
  .laysFinal "TextKeeper" "TextKeeper" "fetched" "LTextKeeper$Text;",
  .laysFinal "TextKeeper" "TextKeeper" "compared" "LTextKeeper$Text;",
  .laysFinal "TextKeeper" "TextKeeper" "maker" "LTextKeeper$Maker;",
  .laysFinal "TextKeeper" "TextKeeper" "writer" "LTextKeeper$PieceWriter;",
  .laysFinal "TextKeeper" "TextKeeper" "power" "LTextKeeper$Power;",
  .lays "TextKeeper" "TextKeeper" "madeDocuments" "I",
  .lays "TextKeeper" "TextKeeper" "fetchedSteps" "I",
  .laysFinal "TextKeeper$Text" "TextKeeper$Text" "bytes" "[B",
  .lays "TextKeeper$Text" "TextKeeper$Text" "length" "I",
  .lays "TextKeeper$Maker" "TextKeeper$Maker" "base" "LTextKeeper$Text;",
  .lays "TextKeeper$Maker" "TextKeeper$Maker" "text" "LTextKeeper$Text;",
  .lays "TextKeeper$Maker" "TextKeeper$Maker" "piece" "[B",
  .lays "TextKeeper$Maker" "TextKeeper$Maker" "at" "I",
  .laysFinal "TextKeeper$PieceWriter" "TextKeeper$PieceWriter" "row" "[B",
  .lays "TextKeeper$PieceWriter" "TextKeeper$PieceWriter" "length" "I",
  .lays "TextKeeper$Power" "TextKeeper$Power" "down" "Z",
  .lays "TextKeeper$Power" "TextKeeper$Power" "going" "Z",
  .lays "TextKeeper$Power" "TextKeeper$Power" "writesLeft" "I",
  .laysFinal "TextKeeper$Document" "TextKeeper$Document" "revisions" "[LTextKeeper$Revision;",
  .lays "TextKeeper$Document" "TextKeeper$Document" "first" "I",
  .lays "TextKeeper$Document" "TextKeeper$Document" "count" "I",
  .laysFinal "TextKeeper$Revision" "TextKeeper$Revision" "piece" "[B",
  .laysFinal "TextKeeper$Revision" "TextKeeper$Revision" "author" "I",
  .laysFinal "TextKeeper$Revision" "TextKeeper$Revision" "sum" "I",
  .lays "TextKeeperModel" "TextKeeperModel" "thrown" "I",
  .lays "TextKeeperModel" "TextKeeperModel" "down" "Z",
  .lays "TextKeeperModel" "TextKeeperModel" "lasts" "I",
  .laysFinal "TextKeeperModel" "TextKeeperModel" "buffer" "[B",
  .lays "TextKeeperModel" "TextKeeperModel" "size" "I",
  .lays "TextKeeperModel" "TextKeeperModel" "documents" "I",
  .laysFinal "TextKeeperModel" "TextKeeperModel" "gone" "[Z",
  .laysFinal "TextKeeperModel" "TextKeeperModel" "first" "[I",
  .laysFinal "TextKeeperModel" "TextKeeperModel" "many" "[I",
  .laysFinal "TextKeeperModel" "TextKeeperModel" "lengths" "[S",
  .laysFinal "TextKeeperModel" "TextKeeperModel" "authors" "[I",
  .laysFinal "TextKeeperModel" "TextKeeperModel" "sums" "[I"]
def w0_3 : List Cond := [.laysFinal "TextKeeperModel" "TextKeeperModel" "row" "[B",
  .lays "TextKeeperModel" "TextKeeperModel" "made" "[B",
  .lays "TextKeeperModel" "TextKeeperModel" "madeSize" "I",
  .lays "TextKeeperModel" "TextKeeperModel" "base" "[B",
  .lays "TextKeeperModel" "TextKeeperModel" "baseSize" "I",
  .laysFinal "TextKeeperModel" "TextKeeperModel" "text" "[B",
  .lays "TextKeeperModel" "TextKeeperModel" "textSize" "I",
  .lays "TextKeeperModel" "TextKeeperModel" "textSteps" "I",
  .laysFinal "TextKeeperModel" "TextKeeperModel" "other" "[B",
  .lays "TextKeeperModel" "TextKeeperModel" "otherSize" "I",
  .laysFinal "TextKeeperModel" "TextKeeperModel" "piece" "[B",
  .lays "TextKeeperModel" "TextKeeperModel" "pieceSize" "I",
  .lays "TextKeeperModel" "TextKeeperModel" "at" "I",
  .lays "TextKeeperModel" "TextKeeperModel" "end" "I",
  .lays "TextKeeperModel" "TextKeeperModel" "value" "I",
  .methodLink R_P 1 objectInit,
  .instanceMethod objectInit,
  .code objectInit ⟨#[0xb1]⟩ 1 none,
  .fieldLink R_P 7 "TextKeeper$Power" "down" "Z",
  .fieldLink R_P 13 "TextKeeper$Power" "going" "Z",
  .fieldLink R_P 16 "TextKeeper$Power" "writesLeft" "I",
  .methodLink R_T 3 objectInit,
  .arrayClass .byte,
  .fieldLink R_T 9 "TextKeeper$Text" "bytes" "[B",
  .fieldLink R_T 15 "TextKeeper$Text" "length" "I",
  .methodLink R_W 3 objectInit,
  .fieldLink R_W 9 "TextKeeper$PieceWriter" "row" "[B",
  .fieldLink R_W 15 "TextKeeper$PieceWriter" "length" "I",
  .methodLink R_M 3 objectInit,
  .classLink R_M 9 R_T,
  .instantiable R_T 2,
  .initialized R_T,
  .code y_T_init prog_7_method_1_code 1 none,
  .methodLink R_M 11 y_T_init,
  .instanceMethod y_T_init,
  .fieldLink R_M 12 "TextKeeper$Maker" "base" "LTextKeeper$Text;",
  .fieldLink R_M 18 "TextKeeper$Maker" "text" "LTextKeeper$Text;",
  .fieldLink R_M 21 "TextKeeper$Maker" "piece" "[B",
  .fieldLink R_M 25 "TextKeeper$Maker" "at" "I",
  .methodLink R_K 1 objectInit]
def w0_4 : List Cond := [.classLink R_K 9 R_D,
  .fieldLink R_K 11 "TextKeeper" "documents" "[LTextKeeper$Document;",
  .classLink R_K 15 R_T,
  .methodLink R_K 17 y_T_init,
  .fieldLink R_K 18 "TextKeeper" "buffer" "LTextKeeper$Text;",
  .fieldLink R_K 22 "TextKeeper" "fetched" "LTextKeeper$Text;",
  .fieldLink R_K 25 "TextKeeper" "compared" "LTextKeeper$Text;",
  .classLink R_K 28 R_M,
  .instantiable R_M 4,
  .initialized R_M,
  .code y_M_init prog_3_method_1_code 1 none,
  .methodLink R_K 30 y_M_init,
  .instanceMethod y_M_init,
  .fieldLink R_K 31 "TextKeeper" "maker" "LTextKeeper$Maker;",
  .classLink R_K 35 R_W,
  .instantiable R_W 2,
  .initialized R_W,
  .code y_W_init prog_4_method_1_code 1 none,
  .methodLink R_K 37 y_W_init,
  .instanceMethod y_W_init,
  .fieldLink R_K 38 "TextKeeper" "writer" "LTextKeeper$PieceWriter;",
  .classLink R_K 42 R_P,
  .instantiable R_P 3,
  .initialized R_P,
  .code y_P_init prog_5_method_1_code 1 none,
  .methodLink R_K 44 y_P_init,
  .instanceMethod y_P_init,
  .fieldLink R_K 45 "TextKeeper" "power" "LTextKeeper$Power;",
  .fieldLink R_K 49 "TextKeeper" "madeDocuments" "I",
  .fieldLink R_K 53 "TextKeeper" "fetchedSteps" "I",
  .methodLink R_T 19 y_T_addByte,
  .instanceMethod y_T_addByte,
  .selects R_T y_T_addByte y_T_addByte,
  .code y_T_addByte prog_7_method_4_code 2 none,
  .methodLink R_T 23 ⟨"java/lang/System","arraycopy","(Ljava/lang/Object;ILjava/lang/Object;II)V"⟩,
  .native ⟨"java/lang/System","arraycopy","(Ljava/lang/Object;ILjava/lang/Object;II)V"⟩,
  .static ⟨"java/lang/System","arraycopy","(Ljava/lang/Object;ILjava/lang/Object;II)V"⟩,
  .initialized "java/lang/System",
  .code ⟨"java/lang/Math","min","(II)I"⟩ prog_15_method_69_code 2 (Option.some .int),
  .methodLink R_T 29 ⟨"java/lang/Math","min","(II)I"⟩]
def w0_5 : List Cond := [.static ⟨"java/lang/Math","min","(II)I"⟩,
  .initialized "java/lang/Math",
  .methodLink R_W 26 y_W_digitsOf,
  .static y_W_digitsOf,
  .code y_W_digitsOf prog_4_method_7_code 3 (some .int),
  .methodLink R_W 55 y_W_writeByte,
  .instanceMethod y_W_writeByte,
  .selects R_W y_W_writeByte y_W_writeByte,
  .code y_W_writeByte prog_4_method_8_code 2 none,
  .methodLink R_W 52 y_T_byteAt,
  .instanceMethod y_T_byteAt,
  .selects R_T y_T_byteAt y_T_byteAt,
  .code y_T_byteAt prog_7_method_2_code 2 (some .int),
  .methodLink R_W 48 y_W_writeNumber,
  .instanceMethod y_W_writeNumber,
  .selects R_W y_W_writeNumber y_W_writeNumber,
  .code y_W_writeNumber prog_4_method_6_code 4 none,
  .methodLink R_W 44 y_T_runWith,
  .instanceMethod y_T_runWith,
  .selects R_T y_T_runWith y_T_runWith,
  .code y_T_runWith prog_7_method_9_code 6 (some .int),
  .methodLink R_W 40 y_W_placeOfLongest,
  .static y_W_placeOfLongest,
  .code y_W_placeOfLongest prog_4_method_4_code 7 (some .int),
  .methodLink R_W 30 y_W_writeInsert,
  .instanceMethod y_W_writeInsert,
  .selects R_W y_W_writeInsert y_W_writeInsert,
  .code y_W_writeInsert prog_4_method_5_code 5 none,
  .methodLink R_A 304 ⟨"java/lang/Math","min","(II)I"⟩,
  .methodLink R_A 150 ⟨"java/lang/System","arraycopy","(Ljava/lang/Object;ILjava/lang/Object;II)V"⟩,
  .methodLink R_W 19 y_W_writeDifferences,
  .instanceMethod y_W_writeDifferences,
  .selects R_W y_W_writeDifferences y_W_writeDifferences,
  .code y_W_writeDifferences prog_4_method_3_code 7 none,
  .methodLink R_W 34 y_A_copyOf,
  .static y_A_copyOf,
  .initialized R_A,
  .code y_A_copyOf prog_19_method_121_code 3 (some (.array .byte)),
  .fieldLink R_O 59 "TextKeeperModel" "piece" "[B",
  .fieldLink R_O 125 "TextKeeperModel" "pieceSize" "I"]
def w0_6 : List Cond := [.methodLink R_O 128 y_O_put,
  .instanceMethod y_O_put,
  .selects R_O y_O_put y_O_put,
  .initialized R_O,
  .code y_O_put prog_9_method_21_code 2 none,
  .fieldLink R_O 69 "TextKeeperModel" "size" "I",
  .fieldLink R_O 113 "TextKeeperModel" "madeSize" "I",
  .fieldLink R_O 13 "TextKeeperModel" "buffer" "[B",
  .fieldLink R_O 41 "TextKeeperModel" "made" "[B",
  .methodLink R_O 131 y_O_putNumber,
  .instanceMethod y_O_putNumber,
  .selects R_O y_O_putNumber y_O_putNumber,
  .code y_O_putNumber prog_9_method_22_code 3 none,
  .methodLink R_O 134 y_O_run,
  .instanceMethod y_O_run,
  .selects R_O y_O_run y_O_run,
  .code y_O_run prog_9_method_24_code 4 (some .int),
  .methodLink R_O 138 y_O_inserts,
  .instanceMethod y_O_inserts,
  .selects R_O y_O_inserts y_O_inserts,
  .code y_O_inserts prog_9_method_23_code 4 none,
  .fieldLink R_O 100 "TextKeeperModel" "value" "I",
  .fieldLink R_O 103 "TextKeeperModel" "at" "I",
  .fieldLink R_O 106 "TextKeeperModel" "end" "I",
  .fieldLink R_O 38 "TextKeeperModel" "row" "[B",
  .methodLink R_M 71 y_T_addByte,
  .methodLink R_M 78 y_T_byteAt,
  .methodLink R_M 58 y_M_readNumber,
  .instanceMethod y_M_readNumber,
  .selects R_M y_M_readNumber y_M_readNumber,
  .code y_M_readNumber prog_3_method_8_code 4 (some .int),
  .methodLink R_M 62 y_T_hasRoom,
  .instanceMethod y_T_hasRoom,
  .selects R_T y_T_hasRoom y_T_hasRoom,
  .code y_T_hasRoom prog_7_method_3_code 2 (some .boolean),
  .methodLink R_M 68 y_M_copy,
  .instanceMethod y_M_copy,
  .selects R_M y_M_copy y_M_copy,
  .code y_M_copy prog_3_method_7_code 4 (some .boolean),
  .methodLink R_M 65 y_M_insert]
def w0_7 : List Cond := [.instanceMethod y_M_insert,
  .selects R_M y_M_insert y_M_insert,
  .code y_M_insert prog_3_method_6_code 3 (some .boolean),
  .fieldLink R_O 44 "TextKeeperModel" "base" "[B",
  .methodLink R_O 109 y_O_number,
  .instanceMethod y_O_number,
  .selects R_O y_O_number y_O_number,
  .code y_O_number prog_9_method_17_code 3 (some .boolean),
  .fieldLink R_O 116 "TextKeeperModel" "baseSize" "I",
  .fieldLink R_O 28 "TextKeeperModel" "lengths" "[S",
  .methodLink R_O 119 y_O_command,
  .instanceMethod y_O_command,
  .selects R_O y_O_command y_O_command,
  .code y_O_command prog_9_method_18_code 5 (some .boolean),
  .methodLink R_M 54 y_M_obeyCommand,
  .instanceMethod y_M_obeyCommand,
  .selects R_M y_M_obeyCommand y_M_obeyCommand,
  .code y_M_obeyCommand prog_3_method_5_code 3 (some .boolean),
  .methodLink R_V 1 objectInit,
  .fieldLink R_V 7 "TextKeeper$Revision" "piece" "[B",
  .fieldLink R_V 13 "TextKeeper$Revision" "author" "I",
  .fieldLink R_V 17 "TextKeeper$Revision" "sum" "I",
  .methodLink R_D 3 objectInit,
  .classLink R_D 9 R_V,
  .fieldLink R_D 11 "TextKeeper$Document" "revisions" "[LTextKeeper$Revision;",
  .fieldLink R_D 17 "TextKeeper$Document" "first" "I",
  .fieldLink R_D 21 "TextKeeper$Document" "count" "I",
  .code y_K_baseOf prog_1_method_28_code 1 (some .int),
  .initialized R_K,
  .static y_K_baseOf,
  .code y_K_blocksFor prog_1_method_27_code 1 (some .int),
  .static y_K_blocksFor,
  .methodLink R_M 45 y_D_keptAt,
  .instanceMethod y_D_keptAt,
  .selects R_D y_D_keptAt y_D_keptAt,
  .initialized R_D,
  .code y_D_keptAt prog_2_method_5_code 2 (some (.object "TextKeeper$Revision")),
  .methodLink R_M 29 y_T_shorten,
  .instanceMethod y_T_shorten,
  .selects R_T y_T_shorten y_T_shorten]
def w0_8 : List Cond := [.code y_T_shorten prog_7_method_6_code 2 (some .boolean),
  .methodLink R_M 41 y_M_makeNext,
  .instanceMethod y_M_makeNext,
  .selects R_M y_M_makeNext y_M_makeNext,
  .code y_M_makeNext prog_3_method_4_code 7 (some .boolean),
  .methodLink R_M 37 y_M_makeAgain,
  .instanceMethod y_M_makeAgain,
  .selects R_M y_M_makeAgain y_M_makeAgain,
  .code y_M_makeAgain prog_3_method_3_code 6 (some (.object "TextKeeper$Text")),
  .fieldLink R_O 65 "TextKeeperModel" "down" "Z",
  .fieldLink R_O 62 "TextKeeperModel" "thrown" "I",
  .fieldLink R_O 9 "TextKeeperModel" "lasts" "I",
  .fieldLink R_O 76 "TextKeeperModel" "documents" "I",
  .fieldLink R_O 17 "TextKeeperModel" "gone" "[Z",
  .methodLink R_O 79 y_O_isDocument,
  .instanceMethod y_O_isDocument,
  .selects R_O y_O_isDocument y_O_isDocument,
  .code y_O_isDocument prog_9_method_7_code 2 (some .boolean),
  .fieldLink R_O 21 "TextKeeperModel" "first" "[I",
  .fieldLink R_O 25 "TextKeeperModel" "many" "[I",
  .methodLink R_O 82 y_O_blocks,
  .static y_O_blocks,
  .code y_O_blocks prog_9_method_11_code 1 (some .int),
  .methodLink R_O 86 y_O_begins,
  .instanceMethod y_O_begins,
  .selects R_O y_O_begins y_O_begins,
  .code y_O_begins prog_9_method_10_code 4 (some .int),
  .methodLink R_O 122 y_O_makes,
  .instanceMethod y_O_makes,
  .selects R_O y_O_makes y_O_makes,
  .code y_O_makes prog_9_method_19_code 3 (some .boolean),
  .methodLink R_O 89 y_O_isUnder,
  .static y_O_isUnder,
  .code y_O_isUnder prog_9_method_14_code 3 (some .boolean),
  .methodLink R_O 93 y_O_drop,
  .instanceMethod y_O_drop,
  .selects R_O y_O_drop y_O_drop,
  .code y_O_drop prog_9_method_13_code 5 none,
  .methodLink R_O 72 y_O_runs,
  .instanceMethod y_O_runs]
def w0_9 : List Cond := [.selects R_O y_O_runs y_O_runs,
  .code y_O_runs prog_9_method_3_code 2 (some .boolean),
  .fieldLink R_O 53 "TextKeeperModel" "textSteps" "I",
  .fieldLink R_O 50 "TextKeeperModel" "textSize" "I",
  .fieldLink R_O 47 "TextKeeperModel" "text" "[B",
  .methodLink R_O 148 y_O_free,
  .instanceMethod y_O_free,
  .selects R_O y_O_free y_O_free,
  .code y_O_free prog_9_method_12_code 3 (some .int),
  .methodLink R_O 97 y_O_writes,
  .instanceMethod y_O_writes,
  .selects R_O y_O_writes y_O_writes,
  .code y_O_writes prog_9_method_4_code 2 (some .boolean),
  .methodLink R_O 156 y_O_isAsked,
  .instanceMethod y_O_isAsked,
  .selects R_O y_O_isAsked y_O_isAsked,
  .code y_O_isAsked prog_9_method_8_code 3 (some .boolean),
  .methodLink R_O 159 y_O_cleans,
  .instanceMethod y_O_cleans,
  .selects R_O y_O_cleans y_O_cleans,
  .code y_O_cleans prog_9_method_15_code 5 none,
  .methodLink R_O 162 y_O_kept,
  .instanceMethod y_O_kept,
  .selects R_O y_O_kept y_O_kept,
  .code y_O_kept prog_9_method_9_code 3 (some .int),
  .methodLink R_O 142 y_O_again,
  .instanceMethod y_O_again,
  .selects R_O y_O_again y_O_again,
  .code y_O_again prog_9_method_20_code 5 (some .boolean),
  .methodLink R_O 145 y_O_pieces,
  .instanceMethod y_O_pieces,
  .selects R_O y_O_pieces y_O_pieces,
  .code y_O_pieces prog_9_method_25_code 7 none,
  .fieldLink R_O 32 "TextKeeperModel" "authors" "[I",
  .fieldLink R_O 35 "TextKeeperModel" "sums" "[I",
  .methodLink R_O 152 y_O_sum,
  .instanceMethod y_O_sum,
  .selects R_O y_O_sum y_O_sum,
  .code y_O_sum prog_9_method_26_code 5 (some .int),
  .methodLink R_K 74 y_K_documentAt]
def w0_10 : List Cond := [.instanceMethod y_K_documentAt,
  .selects R_K y_K_documentAt y_K_documentAt,
  .code y_K_documentAt prog_1_method_23_code 2 (some (.object "TextKeeper$Document")),
  .methodLink R_K 193 y_D_keptAt,
  .methodLink R_K 56 y_K_needPower,
  .instanceMethod y_K_needPower,
  .selects R_K y_K_needPower y_K_needPower,
  .code y_K_needPower prog_1_method_21_code 1 none,
  .methodLink R_K 59 y_T_hasRoom,
  .methodLink R_K 63 y_T_addInt,
  .instanceMethod y_T_addInt,
  .selects R_T y_T_addInt y_T_addInt,
  .code y_T_addInt prog_7_method_5_code 3 none,
  .methodLink R_K 67 y_T_shorten,
  .methodLink R_K 134 y_T_byteAt,
  .methodLink R_K 177 y_P_goAfter,
  .instanceMethod y_P_goAfter,
  .selects R_P y_P_goAfter y_P_goAfter,
  .code y_P_goAfter prog_5_method_2_code 2 none,
  .methodLink R_K 184 y_P_comeBack,
  .instanceMethod y_P_comeBack,
  .selects R_P y_P_comeBack y_P_comeBack,
  .code y_P_comeBack prog_5_method_3_code 1 none,
  .methodLink R_K 190 y_P_lastsFor,
  .instanceMethod y_P_lastsFor,
  .selects R_P y_P_lastsFor y_P_lastsFor,
  .code y_P_lastsFor prog_5_method_4_code 2 (some .boolean),
  .methodLink R_K 149 y_K_keptRevision,
  .instanceMethod y_K_keptRevision,
  .selects R_K y_K_keptRevision y_K_keptRevision,
  .code y_K_keptRevision prog_1_method_24_code 4 (some (.object "TextKeeper$Revision")),
  .methodLink R_K 162 y_V_hasByte,
  .instanceMethod y_V_hasByte,
  .selects R_V y_V_hasByte y_V_hasByte,
  .initialized R_V,
  .code y_V_hasByte prog_6_method_2_code 2 (some .boolean),
  .methodLink R_K 70 y_K_spendWrites,
  .instanceMethod y_K_spendWrites,
  .selects R_K y_K_spendWrites y_K_spendWrites,
  .code y_K_spendWrites prog_1_method_22_code 2 none]
def w0_11 : List Cond := [.instantiable R_D 3,
  .code y_D_init prog_2_method_1_code 1 none,
  .methodLink R_K 73 y_D_init,
  .instanceMethod y_D_init,
  .methodLink R_K 197 y_D_countBlocks,
  .instanceMethod y_D_countBlocks,
  .selects R_D y_D_countBlocks y_D_countBlocks,
  .code y_D_countBlocks prog_2_method_8_code 3 (some .int),
  .methodLink R_K 97 y_K_countFree,
  .instanceMethod y_K_countFree,
  .selects R_K y_K_countFree y_K_countFree,
  .code y_K_countFree prog_1_method_26_code 6 (some .int),
  .methodLink R_K 116 y_D_canBeAsked,
  .instanceMethod y_D_canBeAsked,
  .selects R_D y_D_canBeAsked y_D_canBeAsked,
  .code y_D_canBeAsked prog_2_method_4_code 2 (some .boolean),
  .methodLink R_K 137 y_D_cutBefore,
  .instanceMethod y_D_cutBefore,
  .selects R_D y_D_cutBefore y_D_cutBefore,
  .code y_D_cutBefore prog_2_method_7_code 4 none,
  .methodLink R_K 78 y_D_isFull,
  .instanceMethod y_D_isFull,
  .selects R_D y_D_isFull y_D_isFull,
  .code y_D_isFull prog_2_method_2_code 1 (some .boolean),
  .methodLink R_K 85 y_M_makeBase,
  .instanceMethod y_M_makeBase,
  .selects R_M y_M_makeBase y_M_makeBase,
  .code y_M_makeBase prog_3_method_2_code 3 (some (.object "TextKeeper$Text")),
  .methodLink R_K 89 y_W_pieceOf,
  .instanceMethod y_W_pieceOf,
  .selects R_W y_W_pieceOf y_W_pieceOf,
  .code y_W_pieceOf prog_4_method_2_code 3 (some (.array .byte)),
  .methodLink R_K 93 y_K_blocksFor,
  .classLink R_K 101 R_V,
  .instantiable R_V 3,
  .methodLink R_K 103 y_T_sum,
  .instanceMethod y_T_sum,
  .selects R_T y_T_sum y_T_sum,
  .code y_T_sum prog_7_method_8_code 3 (some .int),
  .code y_V_init prog_6_method_1_code 4 none]
def w0_12 : List Cond := [.methodLink R_K 106 y_V_init,
  .instanceMethod y_V_init,
  .methodLink R_K 109 y_D_add,
  .instanceMethod y_D_add,
  .selects R_D y_D_add y_D_add,
  .code y_D_add prog_2_method_6_code 2 none,
  .methodLink R_K 113 y_D_newest,
  .instanceMethod y_D_newest,
  .selects R_D y_D_newest y_D_newest,
  .code y_D_newest prog_2_method_3_code 1 (some .int),
  .constant R_I 265 (1431655765 : Int32),
  .constant R_I 266 (858993459 : Int32),
  .constant R_I 267 (252645135 : Int32),
  .methodLink R_K 119 y_M_makeAgain,
  .methodLink R_K 122 y_T_become,
  .instanceMethod y_T_become,
  .selects R_T y_T_become y_T_become,
  .code y_T_become prog_7_method_7_code 2 none,
  .methodLink R_K 126 y_I_bitCount,
  .static y_I_bitCount,
  .initialized R_I,
  .code y_I_bitCount prog_14_method_49_code 1 (some .int),
  .methodLink R_O 1 objectInit,
  .arrayClass .boolean,
  .arrayClass .int,
  .arrayClass .short,
  .fieldLink R_O 56 "TextKeeperModel" "other" "[B",
  .fieldLink R_O 165 "TextKeeperModel" "otherSize" "I",
  .methodLink R_K 165 y_K_isSound,
  .instanceMethod y_K_isSound,
  .selects R_K y_K_isSound y_K_isSound,
  .code y_K_isSound prog_1_method_25_code 5 (some .boolean),
  .methodLink R_K 169 y_T_runWith,
  .methodLink R_K 173 y_T_runBackWith,
  .instanceMethod y_T_runBackWith,
  .selects R_T y_T_runBackWith y_T_runBackWith,
  .code y_T_runBackWith prog_7_method_10_code 5 (some .int),
  .methodLink R_L 7 y_K_feed,
  .instanceMethod y_K_feed,
  .selects R_K y_K_feed y_K_feed]
def w0_13 : List Cond := [.code y_K_feed prog_1_method_2_code 6 (some .boolean),
  .methodLink R_L 15 y_K_end,
  .instanceMethod y_K_end,
  .selects R_K y_K_end y_K_end,
  .code y_K_end prog_1_method_3_code 2 (some .boolean),
  .methodLink R_L 19 y_K_make,
  .instanceMethod y_K_make,
  .selects R_K y_K_make y_K_make,
  .code y_K_make prog_1_method_4_code 2 (some .int),
  .methodLink R_L 23 y_K_commit,
  .instanceMethod y_K_commit,
  .selects R_K y_K_commit y_K_commit,
  .code y_K_commit prog_1_method_5_code 7 (some .int),
  .methodLink R_L 27 y_K_fetch,
  .instanceMethod y_K_fetch,
  .selects R_K y_K_fetch y_K_fetch,
  .code y_K_fetch prog_1_method_6_code 5 (some .int),
  .methodLink R_L 30 y_K_out,
  .instanceMethod y_K_out,
  .selects R_K y_K_out y_K_out,
  .code y_K_out prog_1_method_7_code 2 (some .int),
  .methodLink R_L 34 y_K_steps,
  .instanceMethod y_K_steps,
  .selects R_K y_K_steps y_K_steps,
  .code y_K_steps prog_1_method_8_code 1 (some .int),
  .methodLink R_L 37 y_K_trim,
  .instanceMethod y_K_trim,
  .selects R_K y_K_trim y_K_trim,
  .code y_K_trim prog_1_method_9_code 4 (some .boolean),
  .methodLink R_L 41 y_K_dropDocument,
  .instanceMethod y_K_dropDocument,
  .selects R_K y_K_dropDocument y_K_dropDocument,
  .code y_K_dropDocument prog_1_method_10_code 2 (some .boolean),
  .methodLink R_L 44 y_K_about,
  .instanceMethod y_K_about,
  .selects R_K y_K_about y_K_about,
  .code y_K_about prog_1_method_11_code 4 (some .int),
  .methodLink R_L 51 y_K_revision,
  .instanceMethod y_K_revision,
  .selects R_K y_K_revision y_K_revision]
def w0_14 : List Cond := [.code y_K_revision prog_1_method_12_code 7 (some .int),
  .methodLink R_L 55 y_K_pieceByte,
  .instanceMethod y_K_pieceByte,
  .selects R_K y_K_pieceByte y_K_pieceByte,
  .code y_K_pieceByte prog_1_method_13_code 5 (some .int),
  .methodLink R_L 58 y_K_damage,
  .instanceMethod y_K_damage,
  .selects R_K y_K_damage y_K_damage,
  .code y_K_damage prog_1_method_14_code 6 (some .boolean),
  .methodLink R_L 62 y_K_verify,
  .instanceMethod y_K_verify,
  .selects R_K y_K_verify y_K_verify,
  .code y_K_verify prog_1_method_15_code 4 (some .int),
  .methodLink R_L 65 y_K_common,
  .instanceMethod y_K_common,
  .selects R_K y_K_common y_K_common,
  .code y_K_common prog_1_method_16_code 9 (some .int),
  .methodLink R_L 69 y_K_freeBlocks,
  .instanceMethod y_K_freeBlocks,
  .selects R_K y_K_freeBlocks y_K_freeBlocks,
  .code y_K_freeBlocks prog_1_method_17_code 1 (some .int),
  .methodLink R_L 72 y_K_cutAfter,
  .instanceMethod y_K_cutAfter,
  .selects R_K y_K_cutAfter y_K_cutAfter,
  .code y_K_cutAfter prog_1_method_18_code 2 (some .boolean),
  .codeWith y_L_feed method_3_code 8 (some .int) [(0, 23, 26, 13)],
  .methodLink R_L 79 y_L_feed,
  .static y_L_feed,
  .initialized R_L,
  .methodLink R_L 84 y_O_feed,
  .instanceMethod y_O_feed,
  .selects R_O y_O_feed y_O_feed,
  .code y_O_feed prog_9_method_5_code 8 (some .boolean),
  .codeWith y_L_end method_4_code 4 (some .int) [(0, 16, 19, 13)],
  .methodLink R_L 85 y_L_end,
  .static y_L_end,
  .methodLink R_L 88 y_O_end,
  .instanceMethod y_O_end,
  .selects R_O y_O_end y_O_end,
  .code y_O_end prog_9_method_6_code 2 (some .boolean)]
def w0_15 : List Cond := [.codeWith y_L_make method_5_code 3 (some .int) [(0, 8, 11, 13)],
  .methodLink R_L 89 y_L_make,
  .static y_L_make,
  .methodLink R_L 92 y_O_make,
  .instanceMethod y_O_make,
  .selects R_O y_O_make y_O_make,
  .code y_O_make prog_9_method_16_code 1 (some .int),
  .codeWith y_L_commit method_6_code 5 (some .int) [(0, 10, 13, 13)],
  .methodLink R_L 93 y_L_commit,
  .static y_L_commit,
  .methodLink R_L 96 y_O_commit,
  .instanceMethod y_O_commit,
  .selects R_O y_O_commit y_O_commit,
  .code y_O_commit prog_9_method_27_code 7 (some .int),
  .methodLink R_L 97 y_O_thrown,
  .instanceMethod y_O_thrown,
  .selects R_O y_O_thrown y_O_thrown,
  .code y_O_thrown prog_9_method_2_code 1 (some .int),
  .codeWith y_L_fetch method_7_code 5 (some .int) [(0, 10, 13, 13)],
  .methodLink R_L 100 y_L_fetch,
  .static y_L_fetch,
  .methodLink R_L 102 y_O_fetch,
  .instanceMethod y_O_fetch,
  .selects R_O y_O_fetch y_O_fetch,
  .code y_O_fetch prog_9_method_28_code 4 (some .int),
  .codeWith y_L_out method_8_code 4 (some .int) [(0, 9, 12, 13)],
  .methodLink R_L 103 y_L_out,
  .static y_L_out,
  .methodLink R_L 105 y_O_out,
  .instanceMethod y_O_out,
  .selects R_O y_O_out y_O_out,
  .code y_O_out prog_9_method_29_code 2 (some .int),
  .codeWith y_L_steps method_9_code 3 (some .int) [(0, 8, 11, 13)],
  .methodLink R_L 106 y_L_steps,
  .static y_L_steps,
  .methodLink R_L 108 y_O_steps,
  .instanceMethod y_O_steps,
  .selects R_O y_O_steps y_O_steps,
  .code y_O_steps prog_9_method_30_code 1 (some .int),
  .codeWith y_L_trim method_10_code 5 (some .int) [(0, 17, 20, 13)]]
def w0_16 : List Cond := [.methodLink R_L 109 y_L_trim,
  .static y_L_trim,
  .methodLink R_L 111 y_O_trim,
  .instanceMethod y_O_trim,
  .selects R_O y_O_trim y_O_trim,
  .code y_O_trim prog_9_method_31_code 3 (some .boolean),
  .codeWith y_L_dropDocument method_11_code 4 (some .int) [(0, 16, 19, 13)],
  .methodLink R_L 112 y_L_dropDocument,
  .static y_L_dropDocument,
  .methodLink R_L 114 y_O_dropDocument,
  .instanceMethod y_O_dropDocument,
  .selects R_O y_O_dropDocument y_O_dropDocument,
  .code y_O_dropDocument prog_9_method_32_code 2 (some .boolean),
  .codeWith y_L_about method_12_code 5 (some .int) [(0, 10, 13, 47), (0, 10, 17, 49), (0, 10, 21, 13)],
  .methodLink R_L 115 y_L_about,
  .static y_L_about,
  .methodLink R_L 117 y_O_about,
  .instanceMethod y_O_about,
  .selects R_O y_O_about y_O_about,
  .code y_O_about prog_9_method_33_code 3 (some .int),
  .codeWith y_L_revision method_13_code 6 (some .int) [(0, 12, 15, 47), (0, 12, 19, 49), (0, 12, 23, 13)],
  .methodLink R_L 118 y_L_revision,
  .static y_L_revision,
  .methodLink R_L 121 y_O_revision,
  .instanceMethod y_O_revision,
  .selects R_O y_O_revision y_O_revision,
  .code y_O_revision prog_9_method_34_code 5 (some .int),
  .codeWith y_L_pieceByte method_14_code 6 (some .int) [(0, 12, 15, 13)],
  .methodLink R_L 122 y_L_pieceByte,
  .static y_L_pieceByte,
  .methodLink R_L 124 y_O_pieceByte,
  .instanceMethod y_O_pieceByte,
  .selects R_O y_O_pieceByte y_O_pieceByte,
  .code y_O_pieceByte prog_9_method_35_code 5 (some .int),
  .codeWith y_L_damage method_15_code 7 (some .int) [(0, 21, 24, 13)],
  .methodLink R_L 125 y_L_damage,
  .static y_L_damage,
  .methodLink R_L 128 y_O_damage,
  .instanceMethod y_O_damage,
  .selects R_O y_O_damage y_O_damage]
def w0_17 : List Cond := [.code y_O_damage prog_9_method_36_code 6 (some .boolean),
  .codeWith y_L_verify method_16_code 4 (some .int) [(0, 9, 12, 13)],
  .methodLink R_L 129 y_L_verify,
  .static y_L_verify,
  .methodLink R_L 131 y_O_verify,
  .instanceMethod y_O_verify,
  .selects R_O y_O_verify y_O_verify,
  .code y_O_verify prog_9_method_37_code 3 (some .int),
  .codeWith y_L_common method_17_code 7 (some .int) [(0, 14, 17, 13)],
  .methodLink R_L 132 y_L_common,
  .static y_L_common,
  .methodLink R_L 134 y_O_common,
  .instanceMethod y_O_common,
  .selects R_O y_O_common y_O_common,
  .code y_O_common prog_9_method_38_code 8 (some .int),
  .codeWith y_L_freeBlocks method_18_code 3 (some .int) [(0, 8, 11, 13)],
  .methodLink R_L 135 y_L_freeBlocks,
  .static y_L_freeBlocks,
  .methodLink R_L 137 y_O_freeBlocks,
  .instanceMethod y_O_freeBlocks,
  .selects R_O y_O_freeBlocks y_O_freeBlocks,
  .code y_O_freeBlocks prog_9_method_39_code 1 (some .int),
  .codeWith y_L_cutAfter method_19_code 4 (some .int) [(0, 16, 19, 13)],
  .methodLink R_L 138 y_L_cutAfter,
  .static y_L_cutAfter,
  .methodLink R_L 140 y_O_cutAfter,
  .instanceMethod y_O_cutAfter,
  .selects R_O y_O_cutAfter y_O_cutAfter,
  .code y_O_cutAfter prog_9_method_40_code 2 (some .boolean),
  .methodLink R_L 141 y_K_start,
  .instanceMethod y_K_start,
  .selects R_K y_K_start y_K_start,
  .code y_K_start prog_1_method_19_code 1 (some .boolean),
  .methodLink R_L 145 y_O_start,
  .instanceMethod y_O_start,
  .selects R_O y_O_start y_O_start,
  .code y_O_start prog_9_method_41_code 2 (some .boolean),
  .methodLink R_L 146 y_K_isDown,
  .instanceMethod y_K_isDown,
  .selects R_K y_K_isDown y_K_isDown]
def w0_18 : List Cond := [.code y_K_isDown prog_1_method_20_code 1 (some .boolean),
  .methodLink R_L 149 y_O_isDown,
  .instanceMethod y_O_isDown,
  .selects R_O y_O_isDown y_O_isDown,
  .code y_O_isDown prog_9_method_42_code 1 (some .boolean),
  .classLink R_L 8 R_K,
  .instantiable R_K 9,
  .methodLink R_L 75 y_K_init,
  .instanceMethod y_K_init,
  .methodLink R_A 310 ⟨"[B","clone","()Ljava/lang/Object;"⟩,
  .instanceMethod ⟨"java/lang/Object","clone","()Ljava/lang/Object;"⟩,
  .selects "[B" ⟨"[B","clone","()Ljava/lang/Object;"⟩ ⟨"java/lang/Object","clone","()Ljava/lang/Object;"⟩,
  .classLink R_A 311 "[B",
  .classLink R_L 76 R_O,
  .instantiable R_O 27,
  .methodLink R_L 78 y_O_init,
  .instanceMethod y_O_init,
  .code y_K_init prog_1_method_1_code 1 none,
  .code y_O_init prog_9_method_1_code 2 none,
  .arrayClass .long]
def w0 : List Cond := w0_0 ++ (w0_1 ++ (w0_2 ++ (w0_3 ++ (w0_4 ++ (w0_5 ++ (w0_6 ++ (w0_7 ++ (w0_8 ++ (w0_9 ++ (w0_10 ++ (w0_11 ++ (w0_12 ++ (w0_13 ++ (w0_14 ++ (w0_15 ++ (w0_16 ++ (w0_17 ++ (w0_18))))))))))))))))))
theorem wm_0 : (.initialized "java/lang/Throwable" : Cond) ∈ w0 := List.mem_append_left _ (List.mem_of_getElem? (i := 0) rfl)
theorem wm_1 : (.initialized "java/lang/Exception" : Cond) ∈ w0 := List.mem_append_left _ (List.mem_of_getElem? (i := 1) rfl)
theorem wm_2 : (.initialized "java/lang/RuntimeException" : Cond) ∈ w0 := List.mem_append_left _ (List.mem_of_getElem? (i := 2) rfl)
theorem wm_3 : (.initialized "java/lang/IllegalStateException" : Cond) ∈ w0 := List.mem_append_left _ (List.mem_of_getElem? (i := 3) rfl)
theorem wm_4 : (.initialized "java/util/NoSuchElementException" : Cond) ∈ w0 := List.mem_append_left _ (List.mem_of_getElem? (i := 4) rfl)
theorem wm_5 : (.initialized "java/lang/IllegalArgumentException" : Cond) ∈ w0 := List.mem_append_left _ (List.mem_of_getElem? (i := 5) rfl)
theorem wm_6 : (.classLink "TextKeeperLaw" 13 "java/lang/IllegalStateException" : Cond) ∈ w0 := List.mem_append_left _ (List.mem_of_getElem? (i := 6) rfl)
theorem wm_7 : (.classLink "TextKeeper" 187 "java/lang/IllegalStateException" : Cond) ∈ w0 := List.mem_append_left _ (List.mem_of_getElem? (i := 7) rfl)
theorem wm_8 : (.instantiable "java/lang/IllegalStateException" 6 : Cond) ∈ w0 := List.mem_append_left _ (List.mem_of_getElem? (i := 8) rfl)
theorem wm_9 : (.selects "java/lang/IllegalStateException" ⟨"java/lang/Throwable","fillInStackTrace","(I)Ljava/lang/Throwable;"⟩ ⟨"java/lang/Throwable","fillInStackTrace","(I)Ljava/lang/Throwable;"⟩ : Cond) ∈ w0 := List.mem_append_left _ (List.mem_of_getElem? (i := 9) rfl)
theorem wm_10 : (.selects "java/lang/IllegalStateException" ⟨"java/lang/Throwable","fillInStackTrace","()Ljava/lang/Throwable;"⟩ ⟨"java/lang/Throwable","fillInStackTrace","()Ljava/lang/Throwable;"⟩ : Cond) ∈ w0 := List.mem_append_left _ (List.mem_of_getElem? (i := 10) rfl)
theorem wm_11 : (.lays "java/lang/IllegalStateException" "java/lang/Throwable" "cause" "Ljava/lang/Throwable;" : Cond) ∈ w0 := List.mem_append_left _ (List.mem_of_getElem? (i := 11) rfl)
theorem wm_12 : (.lays "java/lang/Throwable" "java/lang/Throwable" "cause" "Ljava/lang/Throwable;" : Cond) ∈ w0 := List.mem_append_left _ (List.mem_of_getElem? (i := 12) rfl)
theorem wm_13 : (.lays "java/lang/IllegalStateException" "java/lang/Throwable" "stackTrace" "[Ljava/lang/StackTraceElement;" : Cond) ∈ w0 := List.mem_append_left _ (List.mem_of_getElem? (i := 13) rfl)
theorem wm_14 : (.lays "java/lang/Throwable" "java/lang/Throwable" "stackTrace" "[Ljava/lang/StackTraceElement;" : Cond) ∈ w0 := List.mem_append_left _ (List.mem_of_getElem? (i := 14) rfl)
theorem wm_15 : (.lays "java/lang/IllegalStateException" "java/lang/Throwable" "suppressedExceptions" "Ljava/util/List;" : Cond) ∈ w0 := List.mem_append_left _ (List.mem_of_getElem? (i := 15) rfl)
theorem wm_16 : (.lays "java/lang/Throwable" "java/lang/Throwable" "suppressedExceptions" "Ljava/util/List;" : Cond) ∈ w0 := List.mem_append_left _ (List.mem_of_getElem? (i := 16) rfl)
theorem wm_17 : (.lays "java/lang/IllegalStateException" "java/lang/Throwable" "detailMessage" "Ljava/lang/String;" : Cond) ∈ w0 := List.mem_append_left _ (List.mem_of_getElem? (i := 17) rfl)
theorem wm_18 : (.lays "java/lang/Throwable" "java/lang/Throwable" "detailMessage" "Ljava/lang/String;" : Cond) ∈ w0 := List.mem_append_left _ (List.mem_of_getElem? (i := 18) rfl)
theorem wm_19 : (.lays "java/lang/IllegalStateException" "java/lang/Throwable" "backtrace" "Ljava/lang/Object;" : Cond) ∈ w0 := List.mem_append_left _ (List.mem_of_getElem? (i := 19) rfl)
theorem wm_20 : (.lays "java/lang/Throwable" "java/lang/Throwable" "backtrace" "Ljava/lang/Object;" : Cond) ∈ w0 := List.mem_append_left _ (List.mem_of_getElem? (i := 20) rfl)
theorem wm_21 : (.fieldLink "java/lang/Throwable" 198 "java/lang/Throwable" "backtrace" "Ljava/lang/Object;" : Cond) ∈ w0 := List.mem_append_left _ (List.mem_of_getElem? (i := 21) rfl)
theorem wm_22 : (.superclass "java/lang/Throwable" "java/lang/Object" : Cond) ∈ w0 := List.mem_append_left _ (List.mem_of_getElem? (i := 22) rfl)
theorem wm_23 : (.instanceMethod ⟨"java/lang/Throwable","<init>","()V"⟩ : Cond) ∈ w0 := List.mem_append_left _ (List.mem_of_getElem? (i := 23) rfl)
theorem wm_24 : (.code ⟨"java/lang/Throwable","<init>","()V"⟩ prog_18_method_1_code 1 (Option.none : Option Jvm.ClassFile.FieldType) : Cond) ∈ w0 := List.mem_append_left _ (List.mem_of_getElem? (i := 24) rfl)
theorem wm_25 : (.methodLink "java/lang/Throwable" 1 ⟨"java/lang/Object","<init>","()V"⟩ : Cond) ∈ w0 := List.mem_append_left _ (List.mem_of_getElem? (i := 25) rfl)
theorem wm_26 : (.fieldLink "java/lang/Throwable" 13 "java/lang/Throwable" "UNASSIGNED_STACK" "[Ljava/lang/StackTraceElement;" : Cond) ∈ w0 := List.mem_append_left _ (List.mem_of_getElem? (i := 26) rfl)
theorem wm_27 : (.fieldLink "java/lang/Throwable" 20 "java/lang/Throwable" "SUPPRESSED_SENTINEL" "Ljava/util/List;" : Cond) ∈ w0 := List.mem_append_left _ (List.mem_of_getElem? (i := 27) rfl)
theorem wm_28 : (.methodLink "java/lang/Throwable" 27 ⟨"java/lang/Throwable","fillInStackTrace","()Ljava/lang/Throwable;"⟩ : Cond) ∈ w0 := List.mem_append_left _ (List.mem_of_getElem? (i := 28) rfl)
theorem wm_29 : (.instanceMethod ⟨"java/lang/Throwable","fillInStackTrace","()Ljava/lang/Throwable;"⟩ : Cond) ∈ w0 := List.mem_append_left _ (List.mem_of_getElem? (i := 29) rfl)
theorem wm_30 : (.selects "java/lang/IllegalArgumentException" ⟨"java/lang/Throwable","fillInStackTrace","()Ljava/lang/Throwable;"⟩ ⟨"java/lang/Throwable","fillInStackTrace","()Ljava/lang/Throwable;"⟩ : Cond) ∈ w0 := List.mem_append_left _ (List.mem_of_getElem? (i := 30) rfl)
theorem wm_31 : (.selects "java/util/NoSuchElementException" ⟨"java/lang/Throwable","fillInStackTrace","()Ljava/lang/Throwable;"⟩ ⟨"java/lang/Throwable","fillInStackTrace","()Ljava/lang/Throwable;"⟩ : Cond) ∈ w0 := List.mem_append_left _ (List.mem_of_getElem? (i := 31) rfl)
theorem wm_32 : (.codeSync ⟨"java/lang/Throwable","fillInStackTrace","()Ljava/lang/Throwable;"⟩ prog_18_method_18_code 1 (Option.some (.object "java/lang/Throwable")) : Cond) ∈ w0 := List.mem_append_left _ (List.mem_of_getElem? (i := 32) rfl)
theorem wm_33 : (.methodLink "java/lang/Throwable" 202 ⟨"java/lang/Throwable","fillInStackTrace","(I)Ljava/lang/Throwable;"⟩ : Cond) ∈ w0 := List.mem_append_left _ (List.mem_of_getElem? (i := 33) rfl)
theorem wm_34 : (.instanceMethod ⟨"java/lang/Throwable","fillInStackTrace","(I)Ljava/lang/Throwable;"⟩ : Cond) ∈ w0 := List.mem_append_left _ (List.mem_of_getElem? (i := 34) rfl)
theorem wm_35 : (.instantiable "java/lang/Throwable" 6 : Cond) ∈ w0 := List.mem_append_left _ (List.mem_of_getElem? (i := 35) rfl)
theorem wm_36 : (.native ⟨"java/lang/Throwable","fillInStackTrace","(I)Ljava/lang/Throwable;"⟩ : Cond) ∈ w0 := List.mem_append_left _ (List.mem_of_getElem? (i := 36) rfl)
theorem wm_37 : (.methodLink "TextKeeper" 189 ⟨"java/lang/IllegalStateException","<init>","()V"⟩ : Cond) ∈ w0 := List.mem_append_left _ (List.mem_of_getElem? (i := 37) rfl)
theorem wm_38 : (.instanceMethod ⟨"java/lang/IllegalStateException","<init>","()V"⟩ : Cond) ∈ w0 := List.mem_append_left _ (List.mem_of_getElem? (i := 38) rfl)
theorem wm_39 : (.code ⟨"java/lang/IllegalStateException","<init>","()V"⟩ prog_13_method_1_code 1 (Option.none : Option Jvm.ClassFile.FieldType) : Cond) ∈ w0 := List.mem_append_left _ (List.mem_of_getElem? (i := 39) rfl)
theorem wm_40 : (.methodLink "java/lang/IllegalStateException" 1 ⟨"java/lang/RuntimeException","<init>","()V"⟩ : Cond) ∈ w0 := List.mem_append_right _ (List.mem_append_left _ (List.mem_of_getElem? (i := 0) rfl))
theorem wm_41 : (.instanceMethod ⟨"java/lang/RuntimeException","<init>","()V"⟩ : Cond) ∈ w0 := List.mem_append_right _ (List.mem_append_left _ (List.mem_of_getElem? (i := 1) rfl))
theorem wm_42 : (.code ⟨"java/lang/RuntimeException","<init>","()V"⟩ prog_16_method_1_code 1 (Option.none : Option Jvm.ClassFile.FieldType) : Cond) ∈ w0 := List.mem_append_right _ (List.mem_append_left _ (List.mem_of_getElem? (i := 2) rfl))
theorem wm_43 : (.methodLink "java/lang/RuntimeException" 1 ⟨"java/lang/Exception","<init>","()V"⟩ : Cond) ∈ w0 := List.mem_append_right _ (List.mem_append_left _ (List.mem_of_getElem? (i := 3) rfl))
theorem wm_44 : (.instanceMethod ⟨"java/lang/Exception","<init>","()V"⟩ : Cond) ∈ w0 := List.mem_append_right _ (List.mem_append_left _ (List.mem_of_getElem? (i := 4) rfl))
theorem wm_45 : (.code ⟨"java/lang/Exception","<init>","()V"⟩ prog_11_method_1_code 1 (Option.none : Option Jvm.ClassFile.FieldType) : Cond) ∈ w0 := List.mem_append_right _ (List.mem_append_left _ (List.mem_of_getElem? (i := 5) rfl))
theorem wm_46 : (.methodLink "java/lang/Exception" 1 ⟨"java/lang/Throwable","<init>","()V"⟩ : Cond) ∈ w0 := List.mem_append_right _ (List.mem_append_left _ (List.mem_of_getElem? (i := 6) rfl))
theorem wm_47 : (.fieldLink "java/lang/Throwable" 7 "java/lang/Throwable" "cause" "Ljava/lang/Throwable;" : Cond) ∈ w0 := List.mem_append_right _ (List.mem_append_left _ (List.mem_of_getElem? (i := 7) rfl))
theorem wm_48 : (.fieldLink "java/lang/Throwable" 17 "java/lang/Throwable" "stackTrace" "[Ljava/lang/StackTraceElement;" : Cond) ∈ w0 := List.mem_append_right _ (List.mem_append_left _ (List.mem_of_getElem? (i := 8) rfl))
theorem wm_49 : (.fieldLink "java/lang/Throwable" 24 "java/lang/Throwable" "suppressedExceptions" "Ljava/util/List;" : Cond) ∈ w0 := List.mem_append_right _ (List.mem_append_left _ (List.mem_of_getElem? (i := 9) rfl))
theorem wm_50 : (.lays "java/lang/IllegalStateException" "java/lang/Throwable" "depth" "I" : Cond) ∈ w0 := List.mem_append_right _ (List.mem_append_left _ (List.mem_of_getElem? (i := 10) rfl))
theorem wm_51 : (.superclass "java/lang/IllegalStateException" "java/lang/RuntimeException" : Cond) ∈ w0 := List.mem_append_right _ (List.mem_append_left _ (List.mem_of_getElem? (i := 11) rfl))
theorem wm_52 : (.classLink "TextKeeperLaw" 47 "java/util/NoSuchElementException" : Cond) ∈ w0 := List.mem_append_right _ (List.mem_append_left _ (List.mem_of_getElem? (i := 12) rfl))
theorem wm_53 : (.classLink "TextKeeperLaw" 49 "java/lang/IllegalArgumentException" : Cond) ∈ w0 := List.mem_append_right _ (List.mem_append_left _ (List.mem_of_getElem? (i := 13) rfl))
theorem wm_54 : (.classLink "TextKeeper" 140 "java/util/NoSuchElementException" : Cond) ∈ w0 := List.mem_append_right _ (List.mem_append_left _ (List.mem_of_getElem? (i := 14) rfl))
theorem wm_55 : (.instantiable "java/util/NoSuchElementException" 6 : Cond) ∈ w0 := List.mem_append_right _ (List.mem_append_left _ (List.mem_of_getElem? (i := 15) rfl))
theorem wm_56 : (.selects "java/util/NoSuchElementException" ⟨"java/lang/Throwable","fillInStackTrace","(I)Ljava/lang/Throwable;"⟩ ⟨"java/lang/Throwable","fillInStackTrace","(I)Ljava/lang/Throwable;"⟩ : Cond) ∈ w0 := List.mem_append_right _ (List.mem_append_left _ (List.mem_of_getElem? (i := 16) rfl))
theorem wm_57 : (.lays "java/util/NoSuchElementException" "java/lang/Throwable" "cause" "Ljava/lang/Throwable;" : Cond) ∈ w0 := List.mem_append_right _ (List.mem_append_left _ (List.mem_of_getElem? (i := 17) rfl))
theorem wm_58 : (.lays "java/util/NoSuchElementException" "java/lang/Throwable" "stackTrace" "[Ljava/lang/StackTraceElement;" : Cond) ∈ w0 := List.mem_append_right _ (List.mem_append_left _ (List.mem_of_getElem? (i := 18) rfl))
theorem wm_59 : (.lays "java/util/NoSuchElementException" "java/lang/Throwable" "suppressedExceptions" "Ljava/util/List;" : Cond) ∈ w0 := List.mem_append_right _ (List.mem_append_left _ (List.mem_of_getElem? (i := 19) rfl))
theorem wm_60 : (.lays "java/util/NoSuchElementException" "java/lang/Throwable" "detailMessage" "Ljava/lang/String;" : Cond) ∈ w0 := List.mem_append_right _ (List.mem_append_left _ (List.mem_of_getElem? (i := 20) rfl))
theorem wm_61 : (.lays "java/util/NoSuchElementException" "java/lang/Throwable" "backtrace" "Ljava/lang/Object;" : Cond) ∈ w0 := List.mem_append_right _ (List.mem_append_left _ (List.mem_of_getElem? (i := 21) rfl))
theorem wm_62 : (.methodLink "TextKeeper" 142 ⟨"java/util/NoSuchElementException","<init>","()V"⟩ : Cond) ∈ w0 := List.mem_append_right _ (List.mem_append_left _ (List.mem_of_getElem? (i := 22) rfl))
theorem wm_63 : (.instanceMethod ⟨"java/util/NoSuchElementException","<init>","()V"⟩ : Cond) ∈ w0 := List.mem_append_right _ (List.mem_append_left _ (List.mem_of_getElem? (i := 23) rfl))
theorem wm_64 : (.code ⟨"java/util/NoSuchElementException","<init>","()V"⟩ prog_20_method_1_code 1 (Option.none : Option Jvm.ClassFile.FieldType) : Cond) ∈ w0 := List.mem_append_right _ (List.mem_append_left _ (List.mem_of_getElem? (i := 24) rfl))
theorem wm_65 : (.methodLink "java/util/NoSuchElementException" 1 ⟨"java/lang/RuntimeException","<init>","()V"⟩ : Cond) ∈ w0 := List.mem_append_right _ (List.mem_append_left _ (List.mem_of_getElem? (i := 25) rfl))
theorem wm_66 : (.lays "java/util/NoSuchElementException" "java/lang/Throwable" "depth" "I" : Cond) ∈ w0 := List.mem_append_right _ (List.mem_append_left _ (List.mem_of_getElem? (i := 26) rfl))
theorem wm_67 : (.superclass "java/util/NoSuchElementException" "java/lang/RuntimeException" : Cond) ∈ w0 := List.mem_append_right _ (List.mem_append_left _ (List.mem_of_getElem? (i := 27) rfl))
theorem wm_68 : (.classLink "TextKeeper" 146 "java/lang/IllegalArgumentException" : Cond) ∈ w0 := List.mem_append_right _ (List.mem_append_left _ (List.mem_of_getElem? (i := 28) rfl))
theorem wm_69 : (.instantiable "java/lang/IllegalArgumentException" 6 : Cond) ∈ w0 := List.mem_append_right _ (List.mem_append_left _ (List.mem_of_getElem? (i := 29) rfl))
theorem wm_70 : (.selects "java/lang/IllegalArgumentException" ⟨"java/lang/Throwable","fillInStackTrace","(I)Ljava/lang/Throwable;"⟩ ⟨"java/lang/Throwable","fillInStackTrace","(I)Ljava/lang/Throwable;"⟩ : Cond) ∈ w0 := List.mem_append_right _ (List.mem_append_left _ (List.mem_of_getElem? (i := 30) rfl))
theorem wm_71 : (.lays "java/lang/IllegalArgumentException" "java/lang/Throwable" "cause" "Ljava/lang/Throwable;" : Cond) ∈ w0 := List.mem_append_right _ (List.mem_append_left _ (List.mem_of_getElem? (i := 31) rfl))
theorem wm_72 : (.lays "java/lang/IllegalArgumentException" "java/lang/Throwable" "stackTrace" "[Ljava/lang/StackTraceElement;" : Cond) ∈ w0 := List.mem_append_right _ (List.mem_append_left _ (List.mem_of_getElem? (i := 32) rfl))
theorem wm_73 : (.lays "java/lang/IllegalArgumentException" "java/lang/Throwable" "suppressedExceptions" "Ljava/util/List;" : Cond) ∈ w0 := List.mem_append_right _ (List.mem_append_left _ (List.mem_of_getElem? (i := 33) rfl))
theorem wm_74 : (.lays "java/lang/IllegalArgumentException" "java/lang/Throwable" "detailMessage" "Ljava/lang/String;" : Cond) ∈ w0 := List.mem_append_right _ (List.mem_append_left _ (List.mem_of_getElem? (i := 34) rfl))
theorem wm_75 : (.lays "java/lang/IllegalArgumentException" "java/lang/Throwable" "backtrace" "Ljava/lang/Object;" : Cond) ∈ w0 := List.mem_append_right _ (List.mem_append_left _ (List.mem_of_getElem? (i := 35) rfl))
theorem wm_76 : (.methodLink "TextKeeper" 148 ⟨"java/lang/IllegalArgumentException","<init>","()V"⟩ : Cond) ∈ w0 := List.mem_append_right _ (List.mem_append_left _ (List.mem_of_getElem? (i := 36) rfl))
theorem wm_77 : (.instanceMethod ⟨"java/lang/IllegalArgumentException","<init>","()V"⟩ : Cond) ∈ w0 := List.mem_append_right _ (List.mem_append_left _ (List.mem_of_getElem? (i := 37) rfl))
theorem wm_78 : (.code ⟨"java/lang/IllegalArgumentException","<init>","()V"⟩ prog_12_method_1_code 1 (Option.none : Option Jvm.ClassFile.FieldType) : Cond) ∈ w0 := List.mem_append_right _ (List.mem_append_left _ (List.mem_of_getElem? (i := 38) rfl))
theorem wm_79 : (.methodLink "java/lang/IllegalArgumentException" 1 ⟨"java/lang/RuntimeException","<init>","()V"⟩ : Cond) ∈ w0 := List.mem_append_right _ (List.mem_append_left _ (List.mem_of_getElem? (i := 39) rfl))
theorem wm_80 : (.lays "java/lang/IllegalArgumentException" "java/lang/Throwable" "depth" "I" : Cond) ∈ w0 := List.mem_append_right _ (List.mem_append_right _ (List.mem_append_left _ (List.mem_of_getElem? (i := 0) rfl)))
theorem wm_81 : (.superclass "java/lang/IllegalArgumentException" "java/lang/RuntimeException" : Cond) ∈ w0 := List.mem_append_right _ (List.mem_append_right _ (List.mem_append_left _ (List.mem_of_getElem? (i := 1) rfl)))
theorem wm_82 : (.laysFinal "TextKeeper" "TextKeeper" "documents" "[LTextKeeper$Document;" : Cond) ∈ w0 := List.mem_append_right _ (List.mem_append_right _ (List.mem_append_left _ (List.mem_of_getElem? (i := 2) rfl)))
theorem wm_83 : (.laysFinal "TextKeeper" "TextKeeper" "buffer" "LTextKeeper$Text;" : Cond) ∈ w0 := List.mem_append_right _ (List.mem_append_right _ (List.mem_append_left _ (List.mem_of_getElem? (i := 3) rfl)))
theorem wm_84 : (.laysFinal "TextKeeper" "TextKeeper" "fetched" "LTextKeeper$Text;" : Cond) ∈ w0 := List.mem_append_right _ (List.mem_append_right _ (List.mem_append_left _ (List.mem_of_getElem? (i := 4) rfl)))
theorem wm_85 : (.laysFinal "TextKeeper" "TextKeeper" "compared" "LTextKeeper$Text;" : Cond) ∈ w0 := List.mem_append_right _ (List.mem_append_right _ (List.mem_append_left _ (List.mem_of_getElem? (i := 5) rfl)))
theorem wm_86 : (.laysFinal "TextKeeper" "TextKeeper" "maker" "LTextKeeper$Maker;" : Cond) ∈ w0 := List.mem_append_right _ (List.mem_append_right _ (List.mem_append_left _ (List.mem_of_getElem? (i := 6) rfl)))
theorem wm_87 : (.laysFinal "TextKeeper" "TextKeeper" "writer" "LTextKeeper$PieceWriter;" : Cond) ∈ w0 := List.mem_append_right _ (List.mem_append_right _ (List.mem_append_left _ (List.mem_of_getElem? (i := 7) rfl)))
theorem wm_88 : (.laysFinal "TextKeeper" "TextKeeper" "power" "LTextKeeper$Power;" : Cond) ∈ w0 := List.mem_append_right _ (List.mem_append_right _ (List.mem_append_left _ (List.mem_of_getElem? (i := 8) rfl)))
theorem wm_89 : (.lays "TextKeeper" "TextKeeper" "madeDocuments" "I" : Cond) ∈ w0 := List.mem_append_right _ (List.mem_append_right _ (List.mem_append_left _ (List.mem_of_getElem? (i := 9) rfl)))
theorem wm_90 : (.lays "TextKeeper" "TextKeeper" "fetchedSteps" "I" : Cond) ∈ w0 := List.mem_append_right _ (List.mem_append_right _ (List.mem_append_left _ (List.mem_of_getElem? (i := 10) rfl)))
theorem wm_91 : (.laysFinal "TextKeeper$Text" "TextKeeper$Text" "bytes" "[B" : Cond) ∈ w0 := List.mem_append_right _ (List.mem_append_right _ (List.mem_append_left _ (List.mem_of_getElem? (i := 11) rfl)))
theorem wm_92 : (.lays "TextKeeper$Text" "TextKeeper$Text" "length" "I" : Cond) ∈ w0 := List.mem_append_right _ (List.mem_append_right _ (List.mem_append_left _ (List.mem_of_getElem? (i := 12) rfl)))
theorem wm_93 : (.lays "TextKeeper$Maker" "TextKeeper$Maker" "base" "LTextKeeper$Text;" : Cond) ∈ w0 := List.mem_append_right _ (List.mem_append_right _ (List.mem_append_left _ (List.mem_of_getElem? (i := 13) rfl)))
theorem wm_94 : (.lays "TextKeeper$Maker" "TextKeeper$Maker" "text" "LTextKeeper$Text;" : Cond) ∈ w0 := List.mem_append_right _ (List.mem_append_right _ (List.mem_append_left _ (List.mem_of_getElem? (i := 14) rfl)))
theorem wm_95 : (.lays "TextKeeper$Maker" "TextKeeper$Maker" "piece" "[B" : Cond) ∈ w0 := List.mem_append_right _ (List.mem_append_right _ (List.mem_append_left _ (List.mem_of_getElem? (i := 15) rfl)))
theorem wm_96 : (.lays "TextKeeper$Maker" "TextKeeper$Maker" "at" "I" : Cond) ∈ w0 := List.mem_append_right _ (List.mem_append_right _ (List.mem_append_left _ (List.mem_of_getElem? (i := 16) rfl)))
theorem wm_97 : (.laysFinal "TextKeeper$PieceWriter" "TextKeeper$PieceWriter" "row" "[B" : Cond) ∈ w0 := List.mem_append_right _ (List.mem_append_right _ (List.mem_append_left _ (List.mem_of_getElem? (i := 17) rfl)))
theorem wm_98 : (.lays "TextKeeper$PieceWriter" "TextKeeper$PieceWriter" "length" "I" : Cond) ∈ w0 := List.mem_append_right _ (List.mem_append_right _ (List.mem_append_left _ (List.mem_of_getElem? (i := 18) rfl)))
theorem wm_99 : (.lays "TextKeeper$Power" "TextKeeper$Power" "down" "Z" : Cond) ∈ w0 := List.mem_append_right _ (List.mem_append_right _ (List.mem_append_left _ (List.mem_of_getElem? (i := 19) rfl)))
theorem wm_100 : (.lays "TextKeeper$Power" "TextKeeper$Power" "going" "Z" : Cond) ∈ w0 := List.mem_append_right _ (List.mem_append_right _ (List.mem_append_left _ (List.mem_of_getElem? (i := 20) rfl)))
theorem wm_101 : (.lays "TextKeeper$Power" "TextKeeper$Power" "writesLeft" "I" : Cond) ∈ w0 := List.mem_append_right _ (List.mem_append_right _ (List.mem_append_left _ (List.mem_of_getElem? (i := 21) rfl)))
theorem wm_102 : (.laysFinal "TextKeeper$Document" "TextKeeper$Document" "revisions" "[LTextKeeper$Revision;" : Cond) ∈ w0 := List.mem_append_right _ (List.mem_append_right _ (List.mem_append_left _ (List.mem_of_getElem? (i := 22) rfl)))
theorem wm_103 : (.lays "TextKeeper$Document" "TextKeeper$Document" "first" "I" : Cond) ∈ w0 := List.mem_append_right _ (List.mem_append_right _ (List.mem_append_left _ (List.mem_of_getElem? (i := 23) rfl)))
theorem wm_104 : (.lays "TextKeeper$Document" "TextKeeper$Document" "count" "I" : Cond) ∈ w0 := List.mem_append_right _ (List.mem_append_right _ (List.mem_append_left _ (List.mem_of_getElem? (i := 24) rfl)))
theorem wm_105 : (.laysFinal "TextKeeper$Revision" "TextKeeper$Revision" "piece" "[B" : Cond) ∈ w0 := List.mem_append_right _ (List.mem_append_right _ (List.mem_append_left _ (List.mem_of_getElem? (i := 25) rfl)))
theorem wm_106 : (.laysFinal "TextKeeper$Revision" "TextKeeper$Revision" "author" "I" : Cond) ∈ w0 := List.mem_append_right _ (List.mem_append_right _ (List.mem_append_left _ (List.mem_of_getElem? (i := 26) rfl)))
theorem wm_107 : (.laysFinal "TextKeeper$Revision" "TextKeeper$Revision" "sum" "I" : Cond) ∈ w0 := List.mem_append_right _ (List.mem_append_right _ (List.mem_append_left _ (List.mem_of_getElem? (i := 27) rfl)))
theorem wm_108 : (.lays "TextKeeperModel" "TextKeeperModel" "thrown" "I" : Cond) ∈ w0 := List.mem_append_right _ (List.mem_append_right _ (List.mem_append_left _ (List.mem_of_getElem? (i := 28) rfl)))
theorem wm_109 : (.lays "TextKeeperModel" "TextKeeperModel" "down" "Z" : Cond) ∈ w0 := List.mem_append_right _ (List.mem_append_right _ (List.mem_append_left _ (List.mem_of_getElem? (i := 29) rfl)))
theorem wm_110 : (.lays "TextKeeperModel" "TextKeeperModel" "lasts" "I" : Cond) ∈ w0 := List.mem_append_right _ (List.mem_append_right _ (List.mem_append_left _ (List.mem_of_getElem? (i := 30) rfl)))
theorem wm_111 : (.laysFinal "TextKeeperModel" "TextKeeperModel" "buffer" "[B" : Cond) ∈ w0 := List.mem_append_right _ (List.mem_append_right _ (List.mem_append_left _ (List.mem_of_getElem? (i := 31) rfl)))
theorem wm_112 : (.lays "TextKeeperModel" "TextKeeperModel" "size" "I" : Cond) ∈ w0 := List.mem_append_right _ (List.mem_append_right _ (List.mem_append_left _ (List.mem_of_getElem? (i := 32) rfl)))
theorem wm_113 : (.lays "TextKeeperModel" "TextKeeperModel" "documents" "I" : Cond) ∈ w0 := List.mem_append_right _ (List.mem_append_right _ (List.mem_append_left _ (List.mem_of_getElem? (i := 33) rfl)))
theorem wm_114 : (.laysFinal "TextKeeperModel" "TextKeeperModel" "gone" "[Z" : Cond) ∈ w0 := List.mem_append_right _ (List.mem_append_right _ (List.mem_append_left _ (List.mem_of_getElem? (i := 34) rfl)))
theorem wm_115 : (.laysFinal "TextKeeperModel" "TextKeeperModel" "first" "[I" : Cond) ∈ w0 := List.mem_append_right _ (List.mem_append_right _ (List.mem_append_left _ (List.mem_of_getElem? (i := 35) rfl)))
theorem wm_116 : (.laysFinal "TextKeeperModel" "TextKeeperModel" "many" "[I" : Cond) ∈ w0 := List.mem_append_right _ (List.mem_append_right _ (List.mem_append_left _ (List.mem_of_getElem? (i := 36) rfl)))
theorem wm_117 : (.laysFinal "TextKeeperModel" "TextKeeperModel" "lengths" "[S" : Cond) ∈ w0 := List.mem_append_right _ (List.mem_append_right _ (List.mem_append_left _ (List.mem_of_getElem? (i := 37) rfl)))
theorem wm_118 : (.laysFinal "TextKeeperModel" "TextKeeperModel" "authors" "[I" : Cond) ∈ w0 := List.mem_append_right _ (List.mem_append_right _ (List.mem_append_left _ (List.mem_of_getElem? (i := 38) rfl)))
theorem wm_119 : (.laysFinal "TextKeeperModel" "TextKeeperModel" "sums" "[I" : Cond) ∈ w0 := List.mem_append_right _ (List.mem_append_right _ (List.mem_append_left _ (List.mem_of_getElem? (i := 39) rfl)))
theorem wm_120 : (.laysFinal "TextKeeperModel" "TextKeeperModel" "row" "[B" : Cond) ∈ w0 := List.mem_append_right _ (List.mem_append_right _ (List.mem_append_right _ (List.mem_append_left _ (List.mem_of_getElem? (i := 0) rfl))))
theorem wm_121 : (.lays "TextKeeperModel" "TextKeeperModel" "made" "[B" : Cond) ∈ w0 := List.mem_append_right _ (List.mem_append_right _ (List.mem_append_right _ (List.mem_append_left _ (List.mem_of_getElem? (i := 1) rfl))))
theorem wm_122 : (.lays "TextKeeperModel" "TextKeeperModel" "madeSize" "I" : Cond) ∈ w0 := List.mem_append_right _ (List.mem_append_right _ (List.mem_append_right _ (List.mem_append_left _ (List.mem_of_getElem? (i := 2) rfl))))
theorem wm_123 : (.lays "TextKeeperModel" "TextKeeperModel" "base" "[B" : Cond) ∈ w0 := List.mem_append_right _ (List.mem_append_right _ (List.mem_append_right _ (List.mem_append_left _ (List.mem_of_getElem? (i := 3) rfl))))
theorem wm_124 : (.lays "TextKeeperModel" "TextKeeperModel" "baseSize" "I" : Cond) ∈ w0 := List.mem_append_right _ (List.mem_append_right _ (List.mem_append_right _ (List.mem_append_left _ (List.mem_of_getElem? (i := 4) rfl))))
theorem wm_125 : (.laysFinal "TextKeeperModel" "TextKeeperModel" "text" "[B" : Cond) ∈ w0 := List.mem_append_right _ (List.mem_append_right _ (List.mem_append_right _ (List.mem_append_left _ (List.mem_of_getElem? (i := 5) rfl))))
theorem wm_126 : (.lays "TextKeeperModel" "TextKeeperModel" "textSize" "I" : Cond) ∈ w0 := List.mem_append_right _ (List.mem_append_right _ (List.mem_append_right _ (List.mem_append_left _ (List.mem_of_getElem? (i := 6) rfl))))
theorem wm_127 : (.lays "TextKeeperModel" "TextKeeperModel" "textSteps" "I" : Cond) ∈ w0 := List.mem_append_right _ (List.mem_append_right _ (List.mem_append_right _ (List.mem_append_left _ (List.mem_of_getElem? (i := 7) rfl))))
theorem wm_128 : (.laysFinal "TextKeeperModel" "TextKeeperModel" "other" "[B" : Cond) ∈ w0 := List.mem_append_right _ (List.mem_append_right _ (List.mem_append_right _ (List.mem_append_left _ (List.mem_of_getElem? (i := 8) rfl))))
theorem wm_129 : (.lays "TextKeeperModel" "TextKeeperModel" "otherSize" "I" : Cond) ∈ w0 := List.mem_append_right _ (List.mem_append_right _ (List.mem_append_right _ (List.mem_append_left _ (List.mem_of_getElem? (i := 9) rfl))))
theorem wm_130 : (.laysFinal "TextKeeperModel" "TextKeeperModel" "piece" "[B" : Cond) ∈ w0 := List.mem_append_right _ (List.mem_append_right _ (List.mem_append_right _ (List.mem_append_left _ (List.mem_of_getElem? (i := 10) rfl))))
theorem wm_131 : (.lays "TextKeeperModel" "TextKeeperModel" "pieceSize" "I" : Cond) ∈ w0 := List.mem_append_right _ (List.mem_append_right _ (List.mem_append_right _ (List.mem_append_left _ (List.mem_of_getElem? (i := 11) rfl))))
theorem wm_132 : (.lays "TextKeeperModel" "TextKeeperModel" "at" "I" : Cond) ∈ w0 := List.mem_append_right _ (List.mem_append_right _ (List.mem_append_right _ (List.mem_append_left _ (List.mem_of_getElem? (i := 12) rfl))))
theorem wm_133 : (.lays "TextKeeperModel" "TextKeeperModel" "end" "I" : Cond) ∈ w0 := List.mem_append_right _ (List.mem_append_right _ (List.mem_append_right _ (List.mem_append_left _ (List.mem_of_getElem? (i := 13) rfl))))
theorem wm_134 : (.lays "TextKeeperModel" "TextKeeperModel" "value" "I" : Cond) ∈ w0 := List.mem_append_right _ (List.mem_append_right _ (List.mem_append_right _ (List.mem_append_left _ (List.mem_of_getElem? (i := 14) rfl))))
theorem wm_135 : (.methodLink R_P 1 objectInit : Cond) ∈ w0 := List.mem_append_right _ (List.mem_append_right _ (List.mem_append_right _ (List.mem_append_left _ (List.mem_of_getElem? (i := 15) rfl))))
theorem wm_136 : (.instanceMethod objectInit : Cond) ∈ w0 := List.mem_append_right _ (List.mem_append_right _ (List.mem_append_right _ (List.mem_append_left _ (List.mem_of_getElem? (i := 16) rfl))))
theorem wm_137 : (.code objectInit ⟨#[0xb1]⟩ 1 none : Cond) ∈ w0 := List.mem_append_right _ (List.mem_append_right _ (List.mem_append_right _ (List.mem_append_left _ (List.mem_of_getElem? (i := 17) rfl))))
theorem wm_138 : (.fieldLink R_P 7 "TextKeeper$Power" "down" "Z" : Cond) ∈ w0 := List.mem_append_right _ (List.mem_append_right _ (List.mem_append_right _ (List.mem_append_left _ (List.mem_of_getElem? (i := 18) rfl))))
theorem wm_139 : (.fieldLink R_P 13 "TextKeeper$Power" "going" "Z" : Cond) ∈ w0 := List.mem_append_right _ (List.mem_append_right _ (List.mem_append_right _ (List.mem_append_left _ (List.mem_of_getElem? (i := 19) rfl))))
theorem wm_140 : (.fieldLink R_P 16 "TextKeeper$Power" "writesLeft" "I" : Cond) ∈ w0 := List.mem_append_right _ (List.mem_append_right _ (List.mem_append_right _ (List.mem_append_left _ (List.mem_of_getElem? (i := 20) rfl))))
theorem wm_141 : (.methodLink R_T 3 objectInit : Cond) ∈ w0 := List.mem_append_right _ (List.mem_append_right _ (List.mem_append_right _ (List.mem_append_left _ (List.mem_of_getElem? (i := 21) rfl))))
theorem wm_142 : (.arrayClass .byte : Cond) ∈ w0 := List.mem_append_right _ (List.mem_append_right _ (List.mem_append_right _ (List.mem_append_left _ (List.mem_of_getElem? (i := 22) rfl))))
theorem wm_143 : (.fieldLink R_T 9 "TextKeeper$Text" "bytes" "[B" : Cond) ∈ w0 := List.mem_append_right _ (List.mem_append_right _ (List.mem_append_right _ (List.mem_append_left _ (List.mem_of_getElem? (i := 23) rfl))))
theorem wm_144 : (.fieldLink R_T 15 "TextKeeper$Text" "length" "I" : Cond) ∈ w0 := List.mem_append_right _ (List.mem_append_right _ (List.mem_append_right _ (List.mem_append_left _ (List.mem_of_getElem? (i := 24) rfl))))
theorem wm_145 : (.methodLink R_W 3 objectInit : Cond) ∈ w0 := List.mem_append_right _ (List.mem_append_right _ (List.mem_append_right _ (List.mem_append_left _ (List.mem_of_getElem? (i := 25) rfl))))
theorem wm_146 : (.fieldLink R_W 9 "TextKeeper$PieceWriter" "row" "[B" : Cond) ∈ w0 := List.mem_append_right _ (List.mem_append_right _ (List.mem_append_right _ (List.mem_append_left _ (List.mem_of_getElem? (i := 26) rfl))))
theorem wm_147 : (.fieldLink R_W 15 "TextKeeper$PieceWriter" "length" "I" : Cond) ∈ w0 := List.mem_append_right _ (List.mem_append_right _ (List.mem_append_right _ (List.mem_append_left _ (List.mem_of_getElem? (i := 27) rfl))))
theorem wm_148 : (.methodLink R_M 3 objectInit : Cond) ∈ w0 := List.mem_append_right _ (List.mem_append_right _ (List.mem_append_right _ (List.mem_append_left _ (List.mem_of_getElem? (i := 28) rfl))))
theorem wm_149 : (.classLink R_M 9 R_T : Cond) ∈ w0 := List.mem_append_right _ (List.mem_append_right _ (List.mem_append_right _ (List.mem_append_left _ (List.mem_of_getElem? (i := 29) rfl))))
theorem wm_150 : (.instantiable R_T 2 : Cond) ∈ w0 := List.mem_append_right _ (List.mem_append_right _ (List.mem_append_right _ (List.mem_append_left _ (List.mem_of_getElem? (i := 30) rfl))))
theorem wm_151 : (.initialized R_T : Cond) ∈ w0 := List.mem_append_right _ (List.mem_append_right _ (List.mem_append_right _ (List.mem_append_left _ (List.mem_of_getElem? (i := 31) rfl))))
theorem wm_152 : (.code y_T_init prog_7_method_1_code 1 none : Cond) ∈ w0 := List.mem_append_right _ (List.mem_append_right _ (List.mem_append_right _ (List.mem_append_left _ (List.mem_of_getElem? (i := 32) rfl))))
theorem wm_153 : (.methodLink R_M 11 y_T_init : Cond) ∈ w0 := List.mem_append_right _ (List.mem_append_right _ (List.mem_append_right _ (List.mem_append_left _ (List.mem_of_getElem? (i := 33) rfl))))
theorem wm_154 : (.instanceMethod y_T_init : Cond) ∈ w0 := List.mem_append_right _ (List.mem_append_right _ (List.mem_append_right _ (List.mem_append_left _ (List.mem_of_getElem? (i := 34) rfl))))
theorem wm_155 : (.fieldLink R_M 12 "TextKeeper$Maker" "base" "LTextKeeper$Text;" : Cond) ∈ w0 := List.mem_append_right _ (List.mem_append_right _ (List.mem_append_right _ (List.mem_append_left _ (List.mem_of_getElem? (i := 35) rfl))))
theorem wm_156 : (.fieldLink R_M 18 "TextKeeper$Maker" "text" "LTextKeeper$Text;" : Cond) ∈ w0 := List.mem_append_right _ (List.mem_append_right _ (List.mem_append_right _ (List.mem_append_left _ (List.mem_of_getElem? (i := 36) rfl))))
theorem wm_157 : (.fieldLink R_M 21 "TextKeeper$Maker" "piece" "[B" : Cond) ∈ w0 := List.mem_append_right _ (List.mem_append_right _ (List.mem_append_right _ (List.mem_append_left _ (List.mem_of_getElem? (i := 37) rfl))))
theorem wm_158 : (.fieldLink R_M 25 "TextKeeper$Maker" "at" "I" : Cond) ∈ w0 := List.mem_append_right _ (List.mem_append_right _ (List.mem_append_right _ (List.mem_append_left _ (List.mem_of_getElem? (i := 38) rfl))))
theorem wm_159 : (.methodLink R_K 1 objectInit : Cond) ∈ w0 := List.mem_append_right _ (List.mem_append_right _ (List.mem_append_right _ (List.mem_append_left _ (List.mem_of_getElem? (i := 39) rfl))))
theorem wm_160 : (.classLink R_K 9 R_D : Cond) ∈ w0 := List.mem_append_right _ (List.mem_append_right _ (List.mem_append_right _ (List.mem_append_right _ (List.mem_append_left _ (List.mem_of_getElem? (i := 0) rfl)))))
theorem wm_161 : (.fieldLink R_K 11 "TextKeeper" "documents" "[LTextKeeper$Document;" : Cond) ∈ w0 := List.mem_append_right _ (List.mem_append_right _ (List.mem_append_right _ (List.mem_append_right _ (List.mem_append_left _ (List.mem_of_getElem? (i := 1) rfl)))))
theorem wm_162 : (.classLink R_K 15 R_T : Cond) ∈ w0 := List.mem_append_right _ (List.mem_append_right _ (List.mem_append_right _ (List.mem_append_right _ (List.mem_append_left _ (List.mem_of_getElem? (i := 2) rfl)))))
theorem wm_163 : (.methodLink R_K 17 y_T_init : Cond) ∈ w0 := List.mem_append_right _ (List.mem_append_right _ (List.mem_append_right _ (List.mem_append_right _ (List.mem_append_left _ (List.mem_of_getElem? (i := 3) rfl)))))
theorem wm_164 : (.fieldLink R_K 18 "TextKeeper" "buffer" "LTextKeeper$Text;" : Cond) ∈ w0 := List.mem_append_right _ (List.mem_append_right _ (List.mem_append_right _ (List.mem_append_right _ (List.mem_append_left _ (List.mem_of_getElem? (i := 4) rfl)))))
theorem wm_165 : (.fieldLink R_K 22 "TextKeeper" "fetched" "LTextKeeper$Text;" : Cond) ∈ w0 := List.mem_append_right _ (List.mem_append_right _ (List.mem_append_right _ (List.mem_append_right _ (List.mem_append_left _ (List.mem_of_getElem? (i := 5) rfl)))))
theorem wm_166 : (.fieldLink R_K 25 "TextKeeper" "compared" "LTextKeeper$Text;" : Cond) ∈ w0 := List.mem_append_right _ (List.mem_append_right _ (List.mem_append_right _ (List.mem_append_right _ (List.mem_append_left _ (List.mem_of_getElem? (i := 6) rfl)))))
theorem wm_167 : (.classLink R_K 28 R_M : Cond) ∈ w0 := List.mem_append_right _ (List.mem_append_right _ (List.mem_append_right _ (List.mem_append_right _ (List.mem_append_left _ (List.mem_of_getElem? (i := 7) rfl)))))
theorem wm_168 : (.instantiable R_M 4 : Cond) ∈ w0 := List.mem_append_right _ (List.mem_append_right _ (List.mem_append_right _ (List.mem_append_right _ (List.mem_append_left _ (List.mem_of_getElem? (i := 8) rfl)))))
theorem wm_169 : (.initialized R_M : Cond) ∈ w0 := List.mem_append_right _ (List.mem_append_right _ (List.mem_append_right _ (List.mem_append_right _ (List.mem_append_left _ (List.mem_of_getElem? (i := 9) rfl)))))
theorem wm_170 : (.code y_M_init prog_3_method_1_code 1 none : Cond) ∈ w0 := List.mem_append_right _ (List.mem_append_right _ (List.mem_append_right _ (List.mem_append_right _ (List.mem_append_left _ (List.mem_of_getElem? (i := 10) rfl)))))
theorem wm_171 : (.methodLink R_K 30 y_M_init : Cond) ∈ w0 := List.mem_append_right _ (List.mem_append_right _ (List.mem_append_right _ (List.mem_append_right _ (List.mem_append_left _ (List.mem_of_getElem? (i := 11) rfl)))))
theorem wm_172 : (.instanceMethod y_M_init : Cond) ∈ w0 := List.mem_append_right _ (List.mem_append_right _ (List.mem_append_right _ (List.mem_append_right _ (List.mem_append_left _ (List.mem_of_getElem? (i := 12) rfl)))))
theorem wm_173 : (.fieldLink R_K 31 "TextKeeper" "maker" "LTextKeeper$Maker;" : Cond) ∈ w0 := List.mem_append_right _ (List.mem_append_right _ (List.mem_append_right _ (List.mem_append_right _ (List.mem_append_left _ (List.mem_of_getElem? (i := 13) rfl)))))
theorem wm_174 : (.classLink R_K 35 R_W : Cond) ∈ w0 := List.mem_append_right _ (List.mem_append_right _ (List.mem_append_right _ (List.mem_append_right _ (List.mem_append_left _ (List.mem_of_getElem? (i := 14) rfl)))))
theorem wm_175 : (.instantiable R_W 2 : Cond) ∈ w0 := List.mem_append_right _ (List.mem_append_right _ (List.mem_append_right _ (List.mem_append_right _ (List.mem_append_left _ (List.mem_of_getElem? (i := 15) rfl)))))
theorem wm_176 : (.initialized R_W : Cond) ∈ w0 := List.mem_append_right _ (List.mem_append_right _ (List.mem_append_right _ (List.mem_append_right _ (List.mem_append_left _ (List.mem_of_getElem? (i := 16) rfl)))))
theorem wm_177 : (.code y_W_init prog_4_method_1_code 1 none : Cond) ∈ w0 := List.mem_append_right _ (List.mem_append_right _ (List.mem_append_right _ (List.mem_append_right _ (List.mem_append_left _ (List.mem_of_getElem? (i := 17) rfl)))))
theorem wm_178 : (.methodLink R_K 37 y_W_init : Cond) ∈ w0 := List.mem_append_right _ (List.mem_append_right _ (List.mem_append_right _ (List.mem_append_right _ (List.mem_append_left _ (List.mem_of_getElem? (i := 18) rfl)))))
theorem wm_179 : (.instanceMethod y_W_init : Cond) ∈ w0 := List.mem_append_right _ (List.mem_append_right _ (List.mem_append_right _ (List.mem_append_right _ (List.mem_append_left _ (List.mem_of_getElem? (i := 19) rfl)))))
theorem wm_180 : (.fieldLink R_K 38 "TextKeeper" "writer" "LTextKeeper$PieceWriter;" : Cond) ∈ w0 := List.mem_append_right _ (List.mem_append_right _ (List.mem_append_right _ (List.mem_append_right _ (List.mem_append_left _ (List.mem_of_getElem? (i := 20) rfl)))))
theorem wm_181 : (.classLink R_K 42 R_P : Cond) ∈ w0 := List.mem_append_right _ (List.mem_append_right _ (List.mem_append_right _ (List.mem_append_right _ (List.mem_append_left _ (List.mem_of_getElem? (i := 21) rfl)))))
theorem wm_182 : (.instantiable R_P 3 : Cond) ∈ w0 := List.mem_append_right _ (List.mem_append_right _ (List.mem_append_right _ (List.mem_append_right _ (List.mem_append_left _ (List.mem_of_getElem? (i := 22) rfl)))))
theorem wm_183 : (.initialized R_P : Cond) ∈ w0 := List.mem_append_right _ (List.mem_append_right _ (List.mem_append_right _ (List.mem_append_right _ (List.mem_append_left _ (List.mem_of_getElem? (i := 23) rfl)))))
theorem wm_184 : (.code y_P_init prog_5_method_1_code 1 none : Cond) ∈ w0 := List.mem_append_right _ (List.mem_append_right _ (List.mem_append_right _ (List.mem_append_right _ (List.mem_append_left _ (List.mem_of_getElem? (i := 24) rfl)))))
theorem wm_185 : (.methodLink R_K 44 y_P_init : Cond) ∈ w0 := List.mem_append_right _ (List.mem_append_right _ (List.mem_append_right _ (List.mem_append_right _ (List.mem_append_left _ (List.mem_of_getElem? (i := 25) rfl)))))
theorem wm_186 : (.instanceMethod y_P_init : Cond) ∈ w0 := List.mem_append_right _ (List.mem_append_right _ (List.mem_append_right _ (List.mem_append_right _ (List.mem_append_left _ (List.mem_of_getElem? (i := 26) rfl)))))
theorem wm_187 : (.fieldLink R_K 45 "TextKeeper" "power" "LTextKeeper$Power;" : Cond) ∈ w0 := List.mem_append_right _ (List.mem_append_right _ (List.mem_append_right _ (List.mem_append_right _ (List.mem_append_left _ (List.mem_of_getElem? (i := 27) rfl)))))
theorem wm_188 : (.fieldLink R_K 49 "TextKeeper" "madeDocuments" "I" : Cond) ∈ w0 := List.mem_append_right _ (List.mem_append_right _ (List.mem_append_right _ (List.mem_append_right _ (List.mem_append_left _ (List.mem_of_getElem? (i := 28) rfl)))))
theorem wm_189 : (.fieldLink R_K 53 "TextKeeper" "fetchedSteps" "I" : Cond) ∈ w0 := List.mem_append_right _ (List.mem_append_right _ (List.mem_append_right _ (List.mem_append_right _ (List.mem_append_left _ (List.mem_of_getElem? (i := 29) rfl)))))
theorem wm_190 : (.methodLink R_T 19 y_T_addByte : Cond) ∈ w0 := List.mem_append_right _ (List.mem_append_right _ (List.mem_append_right _ (List.mem_append_right _ (List.mem_append_left _ (List.mem_of_getElem? (i := 30) rfl)))))
theorem wm_191 : (.instanceMethod y_T_addByte : Cond) ∈ w0 := List.mem_append_right _ (List.mem_append_right _ (List.mem_append_right _ (List.mem_append_right _ (List.mem_append_left _ (List.mem_of_getElem? (i := 31) rfl)))))
theorem wm_192 : (.selects R_T y_T_addByte y_T_addByte : Cond) ∈ w0 := List.mem_append_right _ (List.mem_append_right _ (List.mem_append_right _ (List.mem_append_right _ (List.mem_append_left _ (List.mem_of_getElem? (i := 32) rfl)))))
theorem wm_193 : (.code y_T_addByte prog_7_method_4_code 2 none : Cond) ∈ w0 := List.mem_append_right _ (List.mem_append_right _ (List.mem_append_right _ (List.mem_append_right _ (List.mem_append_left _ (List.mem_of_getElem? (i := 33) rfl)))))
theorem wm_194 : (.methodLink R_T 23 ⟨"java/lang/System","arraycopy","(Ljava/lang/Object;ILjava/lang/Object;II)V"⟩ : Cond) ∈ w0 := List.mem_append_right _ (List.mem_append_right _ (List.mem_append_right _ (List.mem_append_right _ (List.mem_append_left _ (List.mem_of_getElem? (i := 34) rfl)))))
theorem wm_195 : (.native ⟨"java/lang/System","arraycopy","(Ljava/lang/Object;ILjava/lang/Object;II)V"⟩ : Cond) ∈ w0 := List.mem_append_right _ (List.mem_append_right _ (List.mem_append_right _ (List.mem_append_right _ (List.mem_append_left _ (List.mem_of_getElem? (i := 35) rfl)))))
theorem wm_196 : (.static ⟨"java/lang/System","arraycopy","(Ljava/lang/Object;ILjava/lang/Object;II)V"⟩ : Cond) ∈ w0 := List.mem_append_right _ (List.mem_append_right _ (List.mem_append_right _ (List.mem_append_right _ (List.mem_append_left _ (List.mem_of_getElem? (i := 36) rfl)))))
theorem wm_197 : (.initialized "java/lang/System" : Cond) ∈ w0 := List.mem_append_right _ (List.mem_append_right _ (List.mem_append_right _ (List.mem_append_right _ (List.mem_append_left _ (List.mem_of_getElem? (i := 37) rfl)))))
theorem wm_198 : (.code ⟨"java/lang/Math","min","(II)I"⟩ prog_15_method_69_code 2 (Option.some .int) : Cond) ∈ w0 := List.mem_append_right _ (List.mem_append_right _ (List.mem_append_right _ (List.mem_append_right _ (List.mem_append_left _ (List.mem_of_getElem? (i := 38) rfl)))))
theorem wm_199 : (.methodLink R_T 29 ⟨"java/lang/Math","min","(II)I"⟩ : Cond) ∈ w0 := List.mem_append_right _ (List.mem_append_right _ (List.mem_append_right _ (List.mem_append_right _ (List.mem_append_left _ (List.mem_of_getElem? (i := 39) rfl)))))
theorem wm_200 : (.static ⟨"java/lang/Math","min","(II)I"⟩ : Cond) ∈ w0 := List.mem_append_right _ (List.mem_append_right _ (List.mem_append_right _ (List.mem_append_right _ (List.mem_append_right _ (List.mem_append_left _ (List.mem_of_getElem? (i := 0) rfl))))))
theorem wm_201 : (.initialized "java/lang/Math" : Cond) ∈ w0 := List.mem_append_right _ (List.mem_append_right _ (List.mem_append_right _ (List.mem_append_right _ (List.mem_append_right _ (List.mem_append_left _ (List.mem_of_getElem? (i := 1) rfl))))))
theorem wm_202 : (.methodLink R_W 26 y_W_digitsOf : Cond) ∈ w0 := List.mem_append_right _ (List.mem_append_right _ (List.mem_append_right _ (List.mem_append_right _ (List.mem_append_right _ (List.mem_append_left _ (List.mem_of_getElem? (i := 2) rfl))))))
theorem wm_203 : (.static y_W_digitsOf : Cond) ∈ w0 := List.mem_append_right _ (List.mem_append_right _ (List.mem_append_right _ (List.mem_append_right _ (List.mem_append_right _ (List.mem_append_left _ (List.mem_of_getElem? (i := 3) rfl))))))
theorem wm_204 : (.code y_W_digitsOf prog_4_method_7_code 3 (some .int) : Cond) ∈ w0 := List.mem_append_right _ (List.mem_append_right _ (List.mem_append_right _ (List.mem_append_right _ (List.mem_append_right _ (List.mem_append_left _ (List.mem_of_getElem? (i := 4) rfl))))))
theorem wm_205 : (.methodLink R_W 55 y_W_writeByte : Cond) ∈ w0 := List.mem_append_right _ (List.mem_append_right _ (List.mem_append_right _ (List.mem_append_right _ (List.mem_append_right _ (List.mem_append_left _ (List.mem_of_getElem? (i := 5) rfl))))))
theorem wm_206 : (.instanceMethod y_W_writeByte : Cond) ∈ w0 := List.mem_append_right _ (List.mem_append_right _ (List.mem_append_right _ (List.mem_append_right _ (List.mem_append_right _ (List.mem_append_left _ (List.mem_of_getElem? (i := 6) rfl))))))
theorem wm_207 : (.selects R_W y_W_writeByte y_W_writeByte : Cond) ∈ w0 := List.mem_append_right _ (List.mem_append_right _ (List.mem_append_right _ (List.mem_append_right _ (List.mem_append_right _ (List.mem_append_left _ (List.mem_of_getElem? (i := 7) rfl))))))
theorem wm_208 : (.code y_W_writeByte prog_4_method_8_code 2 none : Cond) ∈ w0 := List.mem_append_right _ (List.mem_append_right _ (List.mem_append_right _ (List.mem_append_right _ (List.mem_append_right _ (List.mem_append_left _ (List.mem_of_getElem? (i := 8) rfl))))))
theorem wm_209 : (.methodLink R_W 52 y_T_byteAt : Cond) ∈ w0 := List.mem_append_right _ (List.mem_append_right _ (List.mem_append_right _ (List.mem_append_right _ (List.mem_append_right _ (List.mem_append_left _ (List.mem_of_getElem? (i := 9) rfl))))))
theorem wm_210 : (.instanceMethod y_T_byteAt : Cond) ∈ w0 := List.mem_append_right _ (List.mem_append_right _ (List.mem_append_right _ (List.mem_append_right _ (List.mem_append_right _ (List.mem_append_left _ (List.mem_of_getElem? (i := 10) rfl))))))
theorem wm_211 : (.selects R_T y_T_byteAt y_T_byteAt : Cond) ∈ w0 := List.mem_append_right _ (List.mem_append_right _ (List.mem_append_right _ (List.mem_append_right _ (List.mem_append_right _ (List.mem_append_left _ (List.mem_of_getElem? (i := 11) rfl))))))
theorem wm_212 : (.code y_T_byteAt prog_7_method_2_code 2 (some .int) : Cond) ∈ w0 := List.mem_append_right _ (List.mem_append_right _ (List.mem_append_right _ (List.mem_append_right _ (List.mem_append_right _ (List.mem_append_left _ (List.mem_of_getElem? (i := 12) rfl))))))
theorem wm_213 : (.methodLink R_W 48 y_W_writeNumber : Cond) ∈ w0 := List.mem_append_right _ (List.mem_append_right _ (List.mem_append_right _ (List.mem_append_right _ (List.mem_append_right _ (List.mem_append_left _ (List.mem_of_getElem? (i := 13) rfl))))))
theorem wm_214 : (.instanceMethod y_W_writeNumber : Cond) ∈ w0 := List.mem_append_right _ (List.mem_append_right _ (List.mem_append_right _ (List.mem_append_right _ (List.mem_append_right _ (List.mem_append_left _ (List.mem_of_getElem? (i := 14) rfl))))))
theorem wm_215 : (.selects R_W y_W_writeNumber y_W_writeNumber : Cond) ∈ w0 := List.mem_append_right _ (List.mem_append_right _ (List.mem_append_right _ (List.mem_append_right _ (List.mem_append_right _ (List.mem_append_left _ (List.mem_of_getElem? (i := 15) rfl))))))
theorem wm_216 : (.code y_W_writeNumber prog_4_method_6_code 4 none : Cond) ∈ w0 := List.mem_append_right _ (List.mem_append_right _ (List.mem_append_right _ (List.mem_append_right _ (List.mem_append_right _ (List.mem_append_left _ (List.mem_of_getElem? (i := 16) rfl))))))
theorem wm_217 : (.methodLink R_W 44 y_T_runWith : Cond) ∈ w0 := List.mem_append_right _ (List.mem_append_right _ (List.mem_append_right _ (List.mem_append_right _ (List.mem_append_right _ (List.mem_append_left _ (List.mem_of_getElem? (i := 17) rfl))))))
theorem wm_218 : (.instanceMethod y_T_runWith : Cond) ∈ w0 := List.mem_append_right _ (List.mem_append_right _ (List.mem_append_right _ (List.mem_append_right _ (List.mem_append_right _ (List.mem_append_left _ (List.mem_of_getElem? (i := 18) rfl))))))
theorem wm_219 : (.selects R_T y_T_runWith y_T_runWith : Cond) ∈ w0 := List.mem_append_right _ (List.mem_append_right _ (List.mem_append_right _ (List.mem_append_right _ (List.mem_append_right _ (List.mem_append_left _ (List.mem_of_getElem? (i := 19) rfl))))))
theorem wm_220 : (.code y_T_runWith prog_7_method_9_code 6 (some .int) : Cond) ∈ w0 := List.mem_append_right _ (List.mem_append_right _ (List.mem_append_right _ (List.mem_append_right _ (List.mem_append_right _ (List.mem_append_left _ (List.mem_of_getElem? (i := 20) rfl))))))
theorem wm_221 : (.methodLink R_W 40 y_W_placeOfLongest : Cond) ∈ w0 := List.mem_append_right _ (List.mem_append_right _ (List.mem_append_right _ (List.mem_append_right _ (List.mem_append_right _ (List.mem_append_left _ (List.mem_of_getElem? (i := 21) rfl))))))
theorem wm_222 : (.static y_W_placeOfLongest : Cond) ∈ w0 := List.mem_append_right _ (List.mem_append_right _ (List.mem_append_right _ (List.mem_append_right _ (List.mem_append_right _ (List.mem_append_left _ (List.mem_of_getElem? (i := 22) rfl))))))
theorem wm_223 : (.code y_W_placeOfLongest prog_4_method_4_code 7 (some .int) : Cond) ∈ w0 := List.mem_append_right _ (List.mem_append_right _ (List.mem_append_right _ (List.mem_append_right _ (List.mem_append_right _ (List.mem_append_left _ (List.mem_of_getElem? (i := 23) rfl))))))
theorem wm_224 : (.methodLink R_W 30 y_W_writeInsert : Cond) ∈ w0 := List.mem_append_right _ (List.mem_append_right _ (List.mem_append_right _ (List.mem_append_right _ (List.mem_append_right _ (List.mem_append_left _ (List.mem_of_getElem? (i := 24) rfl))))))
theorem wm_225 : (.instanceMethod y_W_writeInsert : Cond) ∈ w0 := List.mem_append_right _ (List.mem_append_right _ (List.mem_append_right _ (List.mem_append_right _ (List.mem_append_right _ (List.mem_append_left _ (List.mem_of_getElem? (i := 25) rfl))))))
theorem wm_226 : (.selects R_W y_W_writeInsert y_W_writeInsert : Cond) ∈ w0 := List.mem_append_right _ (List.mem_append_right _ (List.mem_append_right _ (List.mem_append_right _ (List.mem_append_right _ (List.mem_append_left _ (List.mem_of_getElem? (i := 26) rfl))))))
theorem wm_227 : (.code y_W_writeInsert prog_4_method_5_code 5 none : Cond) ∈ w0 := List.mem_append_right _ (List.mem_append_right _ (List.mem_append_right _ (List.mem_append_right _ (List.mem_append_right _ (List.mem_append_left _ (List.mem_of_getElem? (i := 27) rfl))))))
theorem wm_228 : (.methodLink R_A 304 ⟨"java/lang/Math","min","(II)I"⟩ : Cond) ∈ w0 := List.mem_append_right _ (List.mem_append_right _ (List.mem_append_right _ (List.mem_append_right _ (List.mem_append_right _ (List.mem_append_left _ (List.mem_of_getElem? (i := 28) rfl))))))
theorem wm_229 : (.methodLink R_A 150 ⟨"java/lang/System","arraycopy","(Ljava/lang/Object;ILjava/lang/Object;II)V"⟩ : Cond) ∈ w0 := List.mem_append_right _ (List.mem_append_right _ (List.mem_append_right _ (List.mem_append_right _ (List.mem_append_right _ (List.mem_append_left _ (List.mem_of_getElem? (i := 29) rfl))))))
theorem wm_230 : (.methodLink R_W 19 y_W_writeDifferences : Cond) ∈ w0 := List.mem_append_right _ (List.mem_append_right _ (List.mem_append_right _ (List.mem_append_right _ (List.mem_append_right _ (List.mem_append_left _ (List.mem_of_getElem? (i := 30) rfl))))))
theorem wm_231 : (.instanceMethod y_W_writeDifferences : Cond) ∈ w0 := List.mem_append_right _ (List.mem_append_right _ (List.mem_append_right _ (List.mem_append_right _ (List.mem_append_right _ (List.mem_append_left _ (List.mem_of_getElem? (i := 31) rfl))))))
theorem wm_232 : (.selects R_W y_W_writeDifferences y_W_writeDifferences : Cond) ∈ w0 := List.mem_append_right _ (List.mem_append_right _ (List.mem_append_right _ (List.mem_append_right _ (List.mem_append_right _ (List.mem_append_left _ (List.mem_of_getElem? (i := 32) rfl))))))
theorem wm_233 : (.code y_W_writeDifferences prog_4_method_3_code 7 none : Cond) ∈ w0 := List.mem_append_right _ (List.mem_append_right _ (List.mem_append_right _ (List.mem_append_right _ (List.mem_append_right _ (List.mem_append_left _ (List.mem_of_getElem? (i := 33) rfl))))))
theorem wm_234 : (.methodLink R_W 34 y_A_copyOf : Cond) ∈ w0 := List.mem_append_right _ (List.mem_append_right _ (List.mem_append_right _ (List.mem_append_right _ (List.mem_append_right _ (List.mem_append_left _ (List.mem_of_getElem? (i := 34) rfl))))))
theorem wm_235 : (.static y_A_copyOf : Cond) ∈ w0 := List.mem_append_right _ (List.mem_append_right _ (List.mem_append_right _ (List.mem_append_right _ (List.mem_append_right _ (List.mem_append_left _ (List.mem_of_getElem? (i := 35) rfl))))))
theorem wm_236 : (.initialized R_A : Cond) ∈ w0 := List.mem_append_right _ (List.mem_append_right _ (List.mem_append_right _ (List.mem_append_right _ (List.mem_append_right _ (List.mem_append_left _ (List.mem_of_getElem? (i := 36) rfl))))))
theorem wm_237 : (.code y_A_copyOf prog_19_method_121_code 3 (some (.array .byte)) : Cond) ∈ w0 := List.mem_append_right _ (List.mem_append_right _ (List.mem_append_right _ (List.mem_append_right _ (List.mem_append_right _ (List.mem_append_left _ (List.mem_of_getElem? (i := 37) rfl))))))
theorem wm_238 : (.fieldLink R_O 59 "TextKeeperModel" "piece" "[B" : Cond) ∈ w0 := List.mem_append_right _ (List.mem_append_right _ (List.mem_append_right _ (List.mem_append_right _ (List.mem_append_right _ (List.mem_append_left _ (List.mem_of_getElem? (i := 38) rfl))))))
theorem wm_239 : (.fieldLink R_O 125 "TextKeeperModel" "pieceSize" "I" : Cond) ∈ w0 := List.mem_append_right _ (List.mem_append_right _ (List.mem_append_right _ (List.mem_append_right _ (List.mem_append_right _ (List.mem_append_left _ (List.mem_of_getElem? (i := 39) rfl))))))
theorem wm_240 : (.methodLink R_O 128 y_O_put : Cond) ∈ w0 := List.mem_append_right _ (List.mem_append_right _ (List.mem_append_right _ (List.mem_append_right _ (List.mem_append_right _ (List.mem_append_right _ (List.mem_append_left _ (List.mem_of_getElem? (i := 0) rfl)))))))
theorem wm_241 : (.instanceMethod y_O_put : Cond) ∈ w0 := List.mem_append_right _ (List.mem_append_right _ (List.mem_append_right _ (List.mem_append_right _ (List.mem_append_right _ (List.mem_append_right _ (List.mem_append_left _ (List.mem_of_getElem? (i := 1) rfl)))))))
theorem wm_242 : (.selects R_O y_O_put y_O_put : Cond) ∈ w0 := List.mem_append_right _ (List.mem_append_right _ (List.mem_append_right _ (List.mem_append_right _ (List.mem_append_right _ (List.mem_append_right _ (List.mem_append_left _ (List.mem_of_getElem? (i := 2) rfl)))))))
theorem wm_243 : (.initialized R_O : Cond) ∈ w0 := List.mem_append_right _ (List.mem_append_right _ (List.mem_append_right _ (List.mem_append_right _ (List.mem_append_right _ (List.mem_append_right _ (List.mem_append_left _ (List.mem_of_getElem? (i := 3) rfl)))))))
theorem wm_244 : (.code y_O_put prog_9_method_21_code 2 none : Cond) ∈ w0 := List.mem_append_right _ (List.mem_append_right _ (List.mem_append_right _ (List.mem_append_right _ (List.mem_append_right _ (List.mem_append_right _ (List.mem_append_left _ (List.mem_of_getElem? (i := 4) rfl)))))))
theorem wm_245 : (.fieldLink R_O 69 "TextKeeperModel" "size" "I" : Cond) ∈ w0 := List.mem_append_right _ (List.mem_append_right _ (List.mem_append_right _ (List.mem_append_right _ (List.mem_append_right _ (List.mem_append_right _ (List.mem_append_left _ (List.mem_of_getElem? (i := 5) rfl)))))))
theorem wm_246 : (.fieldLink R_O 113 "TextKeeperModel" "madeSize" "I" : Cond) ∈ w0 := List.mem_append_right _ (List.mem_append_right _ (List.mem_append_right _ (List.mem_append_right _ (List.mem_append_right _ (List.mem_append_right _ (List.mem_append_left _ (List.mem_of_getElem? (i := 6) rfl)))))))
theorem wm_247 : (.fieldLink R_O 13 "TextKeeperModel" "buffer" "[B" : Cond) ∈ w0 := List.mem_append_right _ (List.mem_append_right _ (List.mem_append_right _ (List.mem_append_right _ (List.mem_append_right _ (List.mem_append_right _ (List.mem_append_left _ (List.mem_of_getElem? (i := 7) rfl)))))))
theorem wm_248 : (.fieldLink R_O 41 "TextKeeperModel" "made" "[B" : Cond) ∈ w0 := List.mem_append_right _ (List.mem_append_right _ (List.mem_append_right _ (List.mem_append_right _ (List.mem_append_right _ (List.mem_append_right _ (List.mem_append_left _ (List.mem_of_getElem? (i := 8) rfl)))))))
theorem wm_249 : (.methodLink R_O 131 y_O_putNumber : Cond) ∈ w0 := List.mem_append_right _ (List.mem_append_right _ (List.mem_append_right _ (List.mem_append_right _ (List.mem_append_right _ (List.mem_append_right _ (List.mem_append_left _ (List.mem_of_getElem? (i := 9) rfl)))))))
theorem wm_250 : (.instanceMethod y_O_putNumber : Cond) ∈ w0 := List.mem_append_right _ (List.mem_append_right _ (List.mem_append_right _ (List.mem_append_right _ (List.mem_append_right _ (List.mem_append_right _ (List.mem_append_left _ (List.mem_of_getElem? (i := 10) rfl)))))))
theorem wm_251 : (.selects R_O y_O_putNumber y_O_putNumber : Cond) ∈ w0 := List.mem_append_right _ (List.mem_append_right _ (List.mem_append_right _ (List.mem_append_right _ (List.mem_append_right _ (List.mem_append_right _ (List.mem_append_left _ (List.mem_of_getElem? (i := 11) rfl)))))))
theorem wm_252 : (.code y_O_putNumber prog_9_method_22_code 3 none : Cond) ∈ w0 := List.mem_append_right _ (List.mem_append_right _ (List.mem_append_right _ (List.mem_append_right _ (List.mem_append_right _ (List.mem_append_right _ (List.mem_append_left _ (List.mem_of_getElem? (i := 12) rfl)))))))
theorem wm_253 : (.methodLink R_O 134 y_O_run : Cond) ∈ w0 := List.mem_append_right _ (List.mem_append_right _ (List.mem_append_right _ (List.mem_append_right _ (List.mem_append_right _ (List.mem_append_right _ (List.mem_append_left _ (List.mem_of_getElem? (i := 13) rfl)))))))
theorem wm_254 : (.instanceMethod y_O_run : Cond) ∈ w0 := List.mem_append_right _ (List.mem_append_right _ (List.mem_append_right _ (List.mem_append_right _ (List.mem_append_right _ (List.mem_append_right _ (List.mem_append_left _ (List.mem_of_getElem? (i := 14) rfl)))))))
theorem wm_255 : (.selects R_O y_O_run y_O_run : Cond) ∈ w0 := List.mem_append_right _ (List.mem_append_right _ (List.mem_append_right _ (List.mem_append_right _ (List.mem_append_right _ (List.mem_append_right _ (List.mem_append_left _ (List.mem_of_getElem? (i := 15) rfl)))))))
theorem wm_256 : (.code y_O_run prog_9_method_24_code 4 (some .int) : Cond) ∈ w0 := List.mem_append_right _ (List.mem_append_right _ (List.mem_append_right _ (List.mem_append_right _ (List.mem_append_right _ (List.mem_append_right _ (List.mem_append_left _ (List.mem_of_getElem? (i := 16) rfl)))))))
theorem wm_257 : (.methodLink R_O 138 y_O_inserts : Cond) ∈ w0 := List.mem_append_right _ (List.mem_append_right _ (List.mem_append_right _ (List.mem_append_right _ (List.mem_append_right _ (List.mem_append_right _ (List.mem_append_left _ (List.mem_of_getElem? (i := 17) rfl)))))))
theorem wm_258 : (.instanceMethod y_O_inserts : Cond) ∈ w0 := List.mem_append_right _ (List.mem_append_right _ (List.mem_append_right _ (List.mem_append_right _ (List.mem_append_right _ (List.mem_append_right _ (List.mem_append_left _ (List.mem_of_getElem? (i := 18) rfl)))))))
theorem wm_259 : (.selects R_O y_O_inserts y_O_inserts : Cond) ∈ w0 := List.mem_append_right _ (List.mem_append_right _ (List.mem_append_right _ (List.mem_append_right _ (List.mem_append_right _ (List.mem_append_right _ (List.mem_append_left _ (List.mem_of_getElem? (i := 19) rfl)))))))
theorem wm_260 : (.code y_O_inserts prog_9_method_23_code 4 none : Cond) ∈ w0 := List.mem_append_right _ (List.mem_append_right _ (List.mem_append_right _ (List.mem_append_right _ (List.mem_append_right _ (List.mem_append_right _ (List.mem_append_left _ (List.mem_of_getElem? (i := 20) rfl)))))))
theorem wm_261 : (.fieldLink R_O 100 "TextKeeperModel" "value" "I" : Cond) ∈ w0 := List.mem_append_right _ (List.mem_append_right _ (List.mem_append_right _ (List.mem_append_right _ (List.mem_append_right _ (List.mem_append_right _ (List.mem_append_left _ (List.mem_of_getElem? (i := 21) rfl)))))))
theorem wm_262 : (.fieldLink R_O 103 "TextKeeperModel" "at" "I" : Cond) ∈ w0 := List.mem_append_right _ (List.mem_append_right _ (List.mem_append_right _ (List.mem_append_right _ (List.mem_append_right _ (List.mem_append_right _ (List.mem_append_left _ (List.mem_of_getElem? (i := 22) rfl)))))))
theorem wm_263 : (.fieldLink R_O 106 "TextKeeperModel" "end" "I" : Cond) ∈ w0 := List.mem_append_right _ (List.mem_append_right _ (List.mem_append_right _ (List.mem_append_right _ (List.mem_append_right _ (List.mem_append_right _ (List.mem_append_left _ (List.mem_of_getElem? (i := 23) rfl)))))))
theorem wm_264 : (.fieldLink R_O 38 "TextKeeperModel" "row" "[B" : Cond) ∈ w0 := List.mem_append_right _ (List.mem_append_right _ (List.mem_append_right _ (List.mem_append_right _ (List.mem_append_right _ (List.mem_append_right _ (List.mem_append_left _ (List.mem_of_getElem? (i := 24) rfl)))))))
theorem wm_265 : (.methodLink R_M 71 y_T_addByte : Cond) ∈ w0 := List.mem_append_right _ (List.mem_append_right _ (List.mem_append_right _ (List.mem_append_right _ (List.mem_append_right _ (List.mem_append_right _ (List.mem_append_left _ (List.mem_of_getElem? (i := 25) rfl)))))))
theorem wm_266 : (.methodLink R_M 78 y_T_byteAt : Cond) ∈ w0 := List.mem_append_right _ (List.mem_append_right _ (List.mem_append_right _ (List.mem_append_right _ (List.mem_append_right _ (List.mem_append_right _ (List.mem_append_left _ (List.mem_of_getElem? (i := 26) rfl)))))))
theorem wm_267 : (.methodLink R_M 58 y_M_readNumber : Cond) ∈ w0 := List.mem_append_right _ (List.mem_append_right _ (List.mem_append_right _ (List.mem_append_right _ (List.mem_append_right _ (List.mem_append_right _ (List.mem_append_left _ (List.mem_of_getElem? (i := 27) rfl)))))))
theorem wm_268 : (.instanceMethod y_M_readNumber : Cond) ∈ w0 := List.mem_append_right _ (List.mem_append_right _ (List.mem_append_right _ (List.mem_append_right _ (List.mem_append_right _ (List.mem_append_right _ (List.mem_append_left _ (List.mem_of_getElem? (i := 28) rfl)))))))
theorem wm_269 : (.selects R_M y_M_readNumber y_M_readNumber : Cond) ∈ w0 := List.mem_append_right _ (List.mem_append_right _ (List.mem_append_right _ (List.mem_append_right _ (List.mem_append_right _ (List.mem_append_right _ (List.mem_append_left _ (List.mem_of_getElem? (i := 29) rfl)))))))
theorem wm_270 : (.code y_M_readNumber prog_3_method_8_code 4 (some .int) : Cond) ∈ w0 := List.mem_append_right _ (List.mem_append_right _ (List.mem_append_right _ (List.mem_append_right _ (List.mem_append_right _ (List.mem_append_right _ (List.mem_append_left _ (List.mem_of_getElem? (i := 30) rfl)))))))
theorem wm_271 : (.methodLink R_M 62 y_T_hasRoom : Cond) ∈ w0 := List.mem_append_right _ (List.mem_append_right _ (List.mem_append_right _ (List.mem_append_right _ (List.mem_append_right _ (List.mem_append_right _ (List.mem_append_left _ (List.mem_of_getElem? (i := 31) rfl)))))))
theorem wm_272 : (.instanceMethod y_T_hasRoom : Cond) ∈ w0 := List.mem_append_right _ (List.mem_append_right _ (List.mem_append_right _ (List.mem_append_right _ (List.mem_append_right _ (List.mem_append_right _ (List.mem_append_left _ (List.mem_of_getElem? (i := 32) rfl)))))))
theorem wm_273 : (.selects R_T y_T_hasRoom y_T_hasRoom : Cond) ∈ w0 := List.mem_append_right _ (List.mem_append_right _ (List.mem_append_right _ (List.mem_append_right _ (List.mem_append_right _ (List.mem_append_right _ (List.mem_append_left _ (List.mem_of_getElem? (i := 33) rfl)))))))
theorem wm_274 : (.code y_T_hasRoom prog_7_method_3_code 2 (some .boolean) : Cond) ∈ w0 := List.mem_append_right _ (List.mem_append_right _ (List.mem_append_right _ (List.mem_append_right _ (List.mem_append_right _ (List.mem_append_right _ (List.mem_append_left _ (List.mem_of_getElem? (i := 34) rfl)))))))
theorem wm_275 : (.methodLink R_M 68 y_M_copy : Cond) ∈ w0 := List.mem_append_right _ (List.mem_append_right _ (List.mem_append_right _ (List.mem_append_right _ (List.mem_append_right _ (List.mem_append_right _ (List.mem_append_left _ (List.mem_of_getElem? (i := 35) rfl)))))))
theorem wm_276 : (.instanceMethod y_M_copy : Cond) ∈ w0 := List.mem_append_right _ (List.mem_append_right _ (List.mem_append_right _ (List.mem_append_right _ (List.mem_append_right _ (List.mem_append_right _ (List.mem_append_left _ (List.mem_of_getElem? (i := 36) rfl)))))))
theorem wm_277 : (.selects R_M y_M_copy y_M_copy : Cond) ∈ w0 := List.mem_append_right _ (List.mem_append_right _ (List.mem_append_right _ (List.mem_append_right _ (List.mem_append_right _ (List.mem_append_right _ (List.mem_append_left _ (List.mem_of_getElem? (i := 37) rfl)))))))
theorem wm_278 : (.code y_M_copy prog_3_method_7_code 4 (some .boolean) : Cond) ∈ w0 := List.mem_append_right _ (List.mem_append_right _ (List.mem_append_right _ (List.mem_append_right _ (List.mem_append_right _ (List.mem_append_right _ (List.mem_append_left _ (List.mem_of_getElem? (i := 38) rfl)))))))
theorem wm_279 : (.methodLink R_M 65 y_M_insert : Cond) ∈ w0 := List.mem_append_right _ (List.mem_append_right _ (List.mem_append_right _ (List.mem_append_right _ (List.mem_append_right _ (List.mem_append_right _ (List.mem_append_left _ (List.mem_of_getElem? (i := 39) rfl)))))))
theorem wm_280 : (.instanceMethod y_M_insert : Cond) ∈ w0 := List.mem_append_right _ (List.mem_append_right _ (List.mem_append_right _ (List.mem_append_right _ (List.mem_append_right _ (List.mem_append_right _ (List.mem_append_right _ (List.mem_append_left _ (List.mem_of_getElem? (i := 0) rfl))))))))
theorem wm_281 : (.selects R_M y_M_insert y_M_insert : Cond) ∈ w0 := List.mem_append_right _ (List.mem_append_right _ (List.mem_append_right _ (List.mem_append_right _ (List.mem_append_right _ (List.mem_append_right _ (List.mem_append_right _ (List.mem_append_left _ (List.mem_of_getElem? (i := 1) rfl))))))))
theorem wm_282 : (.code y_M_insert prog_3_method_6_code 3 (some .boolean) : Cond) ∈ w0 := List.mem_append_right _ (List.mem_append_right _ (List.mem_append_right _ (List.mem_append_right _ (List.mem_append_right _ (List.mem_append_right _ (List.mem_append_right _ (List.mem_append_left _ (List.mem_of_getElem? (i := 2) rfl))))))))
theorem wm_283 : (.fieldLink R_O 44 "TextKeeperModel" "base" "[B" : Cond) ∈ w0 := List.mem_append_right _ (List.mem_append_right _ (List.mem_append_right _ (List.mem_append_right _ (List.mem_append_right _ (List.mem_append_right _ (List.mem_append_right _ (List.mem_append_left _ (List.mem_of_getElem? (i := 3) rfl))))))))
theorem wm_284 : (.methodLink R_O 109 y_O_number : Cond) ∈ w0 := List.mem_append_right _ (List.mem_append_right _ (List.mem_append_right _ (List.mem_append_right _ (List.mem_append_right _ (List.mem_append_right _ (List.mem_append_right _ (List.mem_append_left _ (List.mem_of_getElem? (i := 4) rfl))))))))
theorem wm_285 : (.instanceMethod y_O_number : Cond) ∈ w0 := List.mem_append_right _ (List.mem_append_right _ (List.mem_append_right _ (List.mem_append_right _ (List.mem_append_right _ (List.mem_append_right _ (List.mem_append_right _ (List.mem_append_left _ (List.mem_of_getElem? (i := 5) rfl))))))))
theorem wm_286 : (.selects R_O y_O_number y_O_number : Cond) ∈ w0 := List.mem_append_right _ (List.mem_append_right _ (List.mem_append_right _ (List.mem_append_right _ (List.mem_append_right _ (List.mem_append_right _ (List.mem_append_right _ (List.mem_append_left _ (List.mem_of_getElem? (i := 6) rfl))))))))
theorem wm_287 : (.code y_O_number prog_9_method_17_code 3 (some .boolean) : Cond) ∈ w0 := List.mem_append_right _ (List.mem_append_right _ (List.mem_append_right _ (List.mem_append_right _ (List.mem_append_right _ (List.mem_append_right _ (List.mem_append_right _ (List.mem_append_left _ (List.mem_of_getElem? (i := 7) rfl))))))))
theorem wm_288 : (.fieldLink R_O 116 "TextKeeperModel" "baseSize" "I" : Cond) ∈ w0 := List.mem_append_right _ (List.mem_append_right _ (List.mem_append_right _ (List.mem_append_right _ (List.mem_append_right _ (List.mem_append_right _ (List.mem_append_right _ (List.mem_append_left _ (List.mem_of_getElem? (i := 8) rfl))))))))
theorem wm_289 : (.fieldLink R_O 28 "TextKeeperModel" "lengths" "[S" : Cond) ∈ w0 := List.mem_append_right _ (List.mem_append_right _ (List.mem_append_right _ (List.mem_append_right _ (List.mem_append_right _ (List.mem_append_right _ (List.mem_append_right _ (List.mem_append_left _ (List.mem_of_getElem? (i := 9) rfl))))))))
theorem wm_290 : (.methodLink R_O 119 y_O_command : Cond) ∈ w0 := List.mem_append_right _ (List.mem_append_right _ (List.mem_append_right _ (List.mem_append_right _ (List.mem_append_right _ (List.mem_append_right _ (List.mem_append_right _ (List.mem_append_left _ (List.mem_of_getElem? (i := 10) rfl))))))))
theorem wm_291 : (.instanceMethod y_O_command : Cond) ∈ w0 := List.mem_append_right _ (List.mem_append_right _ (List.mem_append_right _ (List.mem_append_right _ (List.mem_append_right _ (List.mem_append_right _ (List.mem_append_right _ (List.mem_append_left _ (List.mem_of_getElem? (i := 11) rfl))))))))
theorem wm_292 : (.selects R_O y_O_command y_O_command : Cond) ∈ w0 := List.mem_append_right _ (List.mem_append_right _ (List.mem_append_right _ (List.mem_append_right _ (List.mem_append_right _ (List.mem_append_right _ (List.mem_append_right _ (List.mem_append_left _ (List.mem_of_getElem? (i := 12) rfl))))))))
theorem wm_293 : (.code y_O_command prog_9_method_18_code 5 (some .boolean) : Cond) ∈ w0 := List.mem_append_right _ (List.mem_append_right _ (List.mem_append_right _ (List.mem_append_right _ (List.mem_append_right _ (List.mem_append_right _ (List.mem_append_right _ (List.mem_append_left _ (List.mem_of_getElem? (i := 13) rfl))))))))
theorem wm_294 : (.methodLink R_M 54 y_M_obeyCommand : Cond) ∈ w0 := List.mem_append_right _ (List.mem_append_right _ (List.mem_append_right _ (List.mem_append_right _ (List.mem_append_right _ (List.mem_append_right _ (List.mem_append_right _ (List.mem_append_left _ (List.mem_of_getElem? (i := 14) rfl))))))))
theorem wm_295 : (.instanceMethod y_M_obeyCommand : Cond) ∈ w0 := List.mem_append_right _ (List.mem_append_right _ (List.mem_append_right _ (List.mem_append_right _ (List.mem_append_right _ (List.mem_append_right _ (List.mem_append_right _ (List.mem_append_left _ (List.mem_of_getElem? (i := 15) rfl))))))))
theorem wm_296 : (.selects R_M y_M_obeyCommand y_M_obeyCommand : Cond) ∈ w0 := List.mem_append_right _ (List.mem_append_right _ (List.mem_append_right _ (List.mem_append_right _ (List.mem_append_right _ (List.mem_append_right _ (List.mem_append_right _ (List.mem_append_left _ (List.mem_of_getElem? (i := 16) rfl))))))))
theorem wm_297 : (.code y_M_obeyCommand prog_3_method_5_code 3 (some .boolean) : Cond) ∈ w0 := List.mem_append_right _ (List.mem_append_right _ (List.mem_append_right _ (List.mem_append_right _ (List.mem_append_right _ (List.mem_append_right _ (List.mem_append_right _ (List.mem_append_left _ (List.mem_of_getElem? (i := 17) rfl))))))))
theorem wm_298 : (.methodLink R_V 1 objectInit : Cond) ∈ w0 := List.mem_append_right _ (List.mem_append_right _ (List.mem_append_right _ (List.mem_append_right _ (List.mem_append_right _ (List.mem_append_right _ (List.mem_append_right _ (List.mem_append_left _ (List.mem_of_getElem? (i := 18) rfl))))))))
theorem wm_299 : (.fieldLink R_V 7 "TextKeeper$Revision" "piece" "[B" : Cond) ∈ w0 := List.mem_append_right _ (List.mem_append_right _ (List.mem_append_right _ (List.mem_append_right _ (List.mem_append_right _ (List.mem_append_right _ (List.mem_append_right _ (List.mem_append_left _ (List.mem_of_getElem? (i := 19) rfl))))))))
theorem wm_300 : (.fieldLink R_V 13 "TextKeeper$Revision" "author" "I" : Cond) ∈ w0 := List.mem_append_right _ (List.mem_append_right _ (List.mem_append_right _ (List.mem_append_right _ (List.mem_append_right _ (List.mem_append_right _ (List.mem_append_right _ (List.mem_append_left _ (List.mem_of_getElem? (i := 20) rfl))))))))
theorem wm_301 : (.fieldLink R_V 17 "TextKeeper$Revision" "sum" "I" : Cond) ∈ w0 := List.mem_append_right _ (List.mem_append_right _ (List.mem_append_right _ (List.mem_append_right _ (List.mem_append_right _ (List.mem_append_right _ (List.mem_append_right _ (List.mem_append_left _ (List.mem_of_getElem? (i := 21) rfl))))))))
theorem wm_302 : (.methodLink R_D 3 objectInit : Cond) ∈ w0 := List.mem_append_right _ (List.mem_append_right _ (List.mem_append_right _ (List.mem_append_right _ (List.mem_append_right _ (List.mem_append_right _ (List.mem_append_right _ (List.mem_append_left _ (List.mem_of_getElem? (i := 22) rfl))))))))
theorem wm_303 : (.classLink R_D 9 R_V : Cond) ∈ w0 := List.mem_append_right _ (List.mem_append_right _ (List.mem_append_right _ (List.mem_append_right _ (List.mem_append_right _ (List.mem_append_right _ (List.mem_append_right _ (List.mem_append_left _ (List.mem_of_getElem? (i := 23) rfl))))))))
theorem wm_304 : (.fieldLink R_D 11 "TextKeeper$Document" "revisions" "[LTextKeeper$Revision;" : Cond) ∈ w0 := List.mem_append_right _ (List.mem_append_right _ (List.mem_append_right _ (List.mem_append_right _ (List.mem_append_right _ (List.mem_append_right _ (List.mem_append_right _ (List.mem_append_left _ (List.mem_of_getElem? (i := 24) rfl))))))))
theorem wm_305 : (.fieldLink R_D 17 "TextKeeper$Document" "first" "I" : Cond) ∈ w0 := List.mem_append_right _ (List.mem_append_right _ (List.mem_append_right _ (List.mem_append_right _ (List.mem_append_right _ (List.mem_append_right _ (List.mem_append_right _ (List.mem_append_left _ (List.mem_of_getElem? (i := 25) rfl))))))))
theorem wm_306 : (.fieldLink R_D 21 "TextKeeper$Document" "count" "I" : Cond) ∈ w0 := List.mem_append_right _ (List.mem_append_right _ (List.mem_append_right _ (List.mem_append_right _ (List.mem_append_right _ (List.mem_append_right _ (List.mem_append_right _ (List.mem_append_left _ (List.mem_of_getElem? (i := 26) rfl))))))))
theorem wm_307 : (.code y_K_baseOf prog_1_method_28_code 1 (some .int) : Cond) ∈ w0 := List.mem_append_right _ (List.mem_append_right _ (List.mem_append_right _ (List.mem_append_right _ (List.mem_append_right _ (List.mem_append_right _ (List.mem_append_right _ (List.mem_append_left _ (List.mem_of_getElem? (i := 27) rfl))))))))
theorem wm_308 : (.initialized R_K : Cond) ∈ w0 := List.mem_append_right _ (List.mem_append_right _ (List.mem_append_right _ (List.mem_append_right _ (List.mem_append_right _ (List.mem_append_right _ (List.mem_append_right _ (List.mem_append_left _ (List.mem_of_getElem? (i := 28) rfl))))))))
theorem wm_309 : (.static y_K_baseOf : Cond) ∈ w0 := List.mem_append_right _ (List.mem_append_right _ (List.mem_append_right _ (List.mem_append_right _ (List.mem_append_right _ (List.mem_append_right _ (List.mem_append_right _ (List.mem_append_left _ (List.mem_of_getElem? (i := 29) rfl))))))))
theorem wm_310 : (.code y_K_blocksFor prog_1_method_27_code 1 (some .int) : Cond) ∈ w0 := List.mem_append_right _ (List.mem_append_right _ (List.mem_append_right _ (List.mem_append_right _ (List.mem_append_right _ (List.mem_append_right _ (List.mem_append_right _ (List.mem_append_left _ (List.mem_of_getElem? (i := 30) rfl))))))))
theorem wm_311 : (.static y_K_blocksFor : Cond) ∈ w0 := List.mem_append_right _ (List.mem_append_right _ (List.mem_append_right _ (List.mem_append_right _ (List.mem_append_right _ (List.mem_append_right _ (List.mem_append_right _ (List.mem_append_left _ (List.mem_of_getElem? (i := 31) rfl))))))))
theorem wm_312 : (.methodLink R_M 45 y_D_keptAt : Cond) ∈ w0 := List.mem_append_right _ (List.mem_append_right _ (List.mem_append_right _ (List.mem_append_right _ (List.mem_append_right _ (List.mem_append_right _ (List.mem_append_right _ (List.mem_append_left _ (List.mem_of_getElem? (i := 32) rfl))))))))
theorem wm_313 : (.instanceMethod y_D_keptAt : Cond) ∈ w0 := List.mem_append_right _ (List.mem_append_right _ (List.mem_append_right _ (List.mem_append_right _ (List.mem_append_right _ (List.mem_append_right _ (List.mem_append_right _ (List.mem_append_left _ (List.mem_of_getElem? (i := 33) rfl))))))))
theorem wm_314 : (.selects R_D y_D_keptAt y_D_keptAt : Cond) ∈ w0 := List.mem_append_right _ (List.mem_append_right _ (List.mem_append_right _ (List.mem_append_right _ (List.mem_append_right _ (List.mem_append_right _ (List.mem_append_right _ (List.mem_append_left _ (List.mem_of_getElem? (i := 34) rfl))))))))
theorem wm_315 : (.initialized R_D : Cond) ∈ w0 := List.mem_append_right _ (List.mem_append_right _ (List.mem_append_right _ (List.mem_append_right _ (List.mem_append_right _ (List.mem_append_right _ (List.mem_append_right _ (List.mem_append_left _ (List.mem_of_getElem? (i := 35) rfl))))))))
theorem wm_316 : (.code y_D_keptAt prog_2_method_5_code 2 (some (.object "TextKeeper$Revision")) : Cond) ∈ w0 := List.mem_append_right _ (List.mem_append_right _ (List.mem_append_right _ (List.mem_append_right _ (List.mem_append_right _ (List.mem_append_right _ (List.mem_append_right _ (List.mem_append_left _ (List.mem_of_getElem? (i := 36) rfl))))))))
theorem wm_317 : (.methodLink R_M 29 y_T_shorten : Cond) ∈ w0 := List.mem_append_right _ (List.mem_append_right _ (List.mem_append_right _ (List.mem_append_right _ (List.mem_append_right _ (List.mem_append_right _ (List.mem_append_right _ (List.mem_append_left _ (List.mem_of_getElem? (i := 37) rfl))))))))
theorem wm_318 : (.instanceMethod y_T_shorten : Cond) ∈ w0 := List.mem_append_right _ (List.mem_append_right _ (List.mem_append_right _ (List.mem_append_right _ (List.mem_append_right _ (List.mem_append_right _ (List.mem_append_right _ (List.mem_append_left _ (List.mem_of_getElem? (i := 38) rfl))))))))
theorem wm_319 : (.selects R_T y_T_shorten y_T_shorten : Cond) ∈ w0 := List.mem_append_right _ (List.mem_append_right _ (List.mem_append_right _ (List.mem_append_right _ (List.mem_append_right _ (List.mem_append_right _ (List.mem_append_right _ (List.mem_append_left _ (List.mem_of_getElem? (i := 39) rfl))))))))
theorem wm_320 : (.code y_T_shorten prog_7_method_6_code 2 (some .boolean) : Cond) ∈ w0 := List.mem_append_right _ (List.mem_append_right _ (List.mem_append_right _ (List.mem_append_right _ (List.mem_append_right _ (List.mem_append_right _ (List.mem_append_right _ (List.mem_append_right _ (List.mem_append_left _ (List.mem_of_getElem? (i := 0) rfl)))))))))
theorem wm_321 : (.methodLink R_M 41 y_M_makeNext : Cond) ∈ w0 := List.mem_append_right _ (List.mem_append_right _ (List.mem_append_right _ (List.mem_append_right _ (List.mem_append_right _ (List.mem_append_right _ (List.mem_append_right _ (List.mem_append_right _ (List.mem_append_left _ (List.mem_of_getElem? (i := 1) rfl)))))))))
theorem wm_322 : (.instanceMethod y_M_makeNext : Cond) ∈ w0 := List.mem_append_right _ (List.mem_append_right _ (List.mem_append_right _ (List.mem_append_right _ (List.mem_append_right _ (List.mem_append_right _ (List.mem_append_right _ (List.mem_append_right _ (List.mem_append_left _ (List.mem_of_getElem? (i := 2) rfl)))))))))
theorem wm_323 : (.selects R_M y_M_makeNext y_M_makeNext : Cond) ∈ w0 := List.mem_append_right _ (List.mem_append_right _ (List.mem_append_right _ (List.mem_append_right _ (List.mem_append_right _ (List.mem_append_right _ (List.mem_append_right _ (List.mem_append_right _ (List.mem_append_left _ (List.mem_of_getElem? (i := 3) rfl)))))))))
theorem wm_324 : (.code y_M_makeNext prog_3_method_4_code 7 (some .boolean) : Cond) ∈ w0 := List.mem_append_right _ (List.mem_append_right _ (List.mem_append_right _ (List.mem_append_right _ (List.mem_append_right _ (List.mem_append_right _ (List.mem_append_right _ (List.mem_append_right _ (List.mem_append_left _ (List.mem_of_getElem? (i := 4) rfl)))))))))
theorem wm_325 : (.methodLink R_M 37 y_M_makeAgain : Cond) ∈ w0 := List.mem_append_right _ (List.mem_append_right _ (List.mem_append_right _ (List.mem_append_right _ (List.mem_append_right _ (List.mem_append_right _ (List.mem_append_right _ (List.mem_append_right _ (List.mem_append_left _ (List.mem_of_getElem? (i := 5) rfl)))))))))
theorem wm_326 : (.instanceMethod y_M_makeAgain : Cond) ∈ w0 := List.mem_append_right _ (List.mem_append_right _ (List.mem_append_right _ (List.mem_append_right _ (List.mem_append_right _ (List.mem_append_right _ (List.mem_append_right _ (List.mem_append_right _ (List.mem_append_left _ (List.mem_of_getElem? (i := 6) rfl)))))))))
theorem wm_327 : (.selects R_M y_M_makeAgain y_M_makeAgain : Cond) ∈ w0 := List.mem_append_right _ (List.mem_append_right _ (List.mem_append_right _ (List.mem_append_right _ (List.mem_append_right _ (List.mem_append_right _ (List.mem_append_right _ (List.mem_append_right _ (List.mem_append_left _ (List.mem_of_getElem? (i := 7) rfl)))))))))
theorem wm_328 : (.code y_M_makeAgain prog_3_method_3_code 6 (some (.object "TextKeeper$Text")) : Cond) ∈ w0 := List.mem_append_right _ (List.mem_append_right _ (List.mem_append_right _ (List.mem_append_right _ (List.mem_append_right _ (List.mem_append_right _ (List.mem_append_right _ (List.mem_append_right _ (List.mem_append_left _ (List.mem_of_getElem? (i := 8) rfl)))))))))
theorem wm_329 : (.fieldLink R_O 65 "TextKeeperModel" "down" "Z" : Cond) ∈ w0 := List.mem_append_right _ (List.mem_append_right _ (List.mem_append_right _ (List.mem_append_right _ (List.mem_append_right _ (List.mem_append_right _ (List.mem_append_right _ (List.mem_append_right _ (List.mem_append_left _ (List.mem_of_getElem? (i := 9) rfl)))))))))
theorem wm_330 : (.fieldLink R_O 62 "TextKeeperModel" "thrown" "I" : Cond) ∈ w0 := List.mem_append_right _ (List.mem_append_right _ (List.mem_append_right _ (List.mem_append_right _ (List.mem_append_right _ (List.mem_append_right _ (List.mem_append_right _ (List.mem_append_right _ (List.mem_append_left _ (List.mem_of_getElem? (i := 10) rfl)))))))))
theorem wm_331 : (.fieldLink R_O 9 "TextKeeperModel" "lasts" "I" : Cond) ∈ w0 := List.mem_append_right _ (List.mem_append_right _ (List.mem_append_right _ (List.mem_append_right _ (List.mem_append_right _ (List.mem_append_right _ (List.mem_append_right _ (List.mem_append_right _ (List.mem_append_left _ (List.mem_of_getElem? (i := 11) rfl)))))))))
theorem wm_332 : (.fieldLink R_O 76 "TextKeeperModel" "documents" "I" : Cond) ∈ w0 := List.mem_append_right _ (List.mem_append_right _ (List.mem_append_right _ (List.mem_append_right _ (List.mem_append_right _ (List.mem_append_right _ (List.mem_append_right _ (List.mem_append_right _ (List.mem_append_left _ (List.mem_of_getElem? (i := 12) rfl)))))))))
theorem wm_333 : (.fieldLink R_O 17 "TextKeeperModel" "gone" "[Z" : Cond) ∈ w0 := List.mem_append_right _ (List.mem_append_right _ (List.mem_append_right _ (List.mem_append_right _ (List.mem_append_right _ (List.mem_append_right _ (List.mem_append_right _ (List.mem_append_right _ (List.mem_append_left _ (List.mem_of_getElem? (i := 13) rfl)))))))))
theorem wm_334 : (.methodLink R_O 79 y_O_isDocument : Cond) ∈ w0 := List.mem_append_right _ (List.mem_append_right _ (List.mem_append_right _ (List.mem_append_right _ (List.mem_append_right _ (List.mem_append_right _ (List.mem_append_right _ (List.mem_append_right _ (List.mem_append_left _ (List.mem_of_getElem? (i := 14) rfl)))))))))
theorem wm_335 : (.instanceMethod y_O_isDocument : Cond) ∈ w0 := List.mem_append_right _ (List.mem_append_right _ (List.mem_append_right _ (List.mem_append_right _ (List.mem_append_right _ (List.mem_append_right _ (List.mem_append_right _ (List.mem_append_right _ (List.mem_append_left _ (List.mem_of_getElem? (i := 15) rfl)))))))))
theorem wm_336 : (.selects R_O y_O_isDocument y_O_isDocument : Cond) ∈ w0 := List.mem_append_right _ (List.mem_append_right _ (List.mem_append_right _ (List.mem_append_right _ (List.mem_append_right _ (List.mem_append_right _ (List.mem_append_right _ (List.mem_append_right _ (List.mem_append_left _ (List.mem_of_getElem? (i := 16) rfl)))))))))
theorem wm_337 : (.code y_O_isDocument prog_9_method_7_code 2 (some .boolean) : Cond) ∈ w0 := List.mem_append_right _ (List.mem_append_right _ (List.mem_append_right _ (List.mem_append_right _ (List.mem_append_right _ (List.mem_append_right _ (List.mem_append_right _ (List.mem_append_right _ (List.mem_append_left _ (List.mem_of_getElem? (i := 17) rfl)))))))))
theorem wm_338 : (.fieldLink R_O 21 "TextKeeperModel" "first" "[I" : Cond) ∈ w0 := List.mem_append_right _ (List.mem_append_right _ (List.mem_append_right _ (List.mem_append_right _ (List.mem_append_right _ (List.mem_append_right _ (List.mem_append_right _ (List.mem_append_right _ (List.mem_append_left _ (List.mem_of_getElem? (i := 18) rfl)))))))))
theorem wm_339 : (.fieldLink R_O 25 "TextKeeperModel" "many" "[I" : Cond) ∈ w0 := List.mem_append_right _ (List.mem_append_right _ (List.mem_append_right _ (List.mem_append_right _ (List.mem_append_right _ (List.mem_append_right _ (List.mem_append_right _ (List.mem_append_right _ (List.mem_append_left _ (List.mem_of_getElem? (i := 19) rfl)))))))))
theorem wm_340 : (.methodLink R_O 82 y_O_blocks : Cond) ∈ w0 := List.mem_append_right _ (List.mem_append_right _ (List.mem_append_right _ (List.mem_append_right _ (List.mem_append_right _ (List.mem_append_right _ (List.mem_append_right _ (List.mem_append_right _ (List.mem_append_left _ (List.mem_of_getElem? (i := 20) rfl)))))))))
theorem wm_341 : (.static y_O_blocks : Cond) ∈ w0 := List.mem_append_right _ (List.mem_append_right _ (List.mem_append_right _ (List.mem_append_right _ (List.mem_append_right _ (List.mem_append_right _ (List.mem_append_right _ (List.mem_append_right _ (List.mem_append_left _ (List.mem_of_getElem? (i := 21) rfl)))))))))
theorem wm_342 : (.code y_O_blocks prog_9_method_11_code 1 (some .int) : Cond) ∈ w0 := List.mem_append_right _ (List.mem_append_right _ (List.mem_append_right _ (List.mem_append_right _ (List.mem_append_right _ (List.mem_append_right _ (List.mem_append_right _ (List.mem_append_right _ (List.mem_append_left _ (List.mem_of_getElem? (i := 22) rfl)))))))))
theorem wm_343 : (.methodLink R_O 86 y_O_begins : Cond) ∈ w0 := List.mem_append_right _ (List.mem_append_right _ (List.mem_append_right _ (List.mem_append_right _ (List.mem_append_right _ (List.mem_append_right _ (List.mem_append_right _ (List.mem_append_right _ (List.mem_append_left _ (List.mem_of_getElem? (i := 23) rfl)))))))))
theorem wm_344 : (.instanceMethod y_O_begins : Cond) ∈ w0 := List.mem_append_right _ (List.mem_append_right _ (List.mem_append_right _ (List.mem_append_right _ (List.mem_append_right _ (List.mem_append_right _ (List.mem_append_right _ (List.mem_append_right _ (List.mem_append_left _ (List.mem_of_getElem? (i := 24) rfl)))))))))
theorem wm_345 : (.selects R_O y_O_begins y_O_begins : Cond) ∈ w0 := List.mem_append_right _ (List.mem_append_right _ (List.mem_append_right _ (List.mem_append_right _ (List.mem_append_right _ (List.mem_append_right _ (List.mem_append_right _ (List.mem_append_right _ (List.mem_append_left _ (List.mem_of_getElem? (i := 25) rfl)))))))))
theorem wm_346 : (.code y_O_begins prog_9_method_10_code 4 (some .int) : Cond) ∈ w0 := List.mem_append_right _ (List.mem_append_right _ (List.mem_append_right _ (List.mem_append_right _ (List.mem_append_right _ (List.mem_append_right _ (List.mem_append_right _ (List.mem_append_right _ (List.mem_append_left _ (List.mem_of_getElem? (i := 26) rfl)))))))))
theorem wm_347 : (.methodLink R_O 122 y_O_makes : Cond) ∈ w0 := List.mem_append_right _ (List.mem_append_right _ (List.mem_append_right _ (List.mem_append_right _ (List.mem_append_right _ (List.mem_append_right _ (List.mem_append_right _ (List.mem_append_right _ (List.mem_append_left _ (List.mem_of_getElem? (i := 27) rfl)))))))))
theorem wm_348 : (.instanceMethod y_O_makes : Cond) ∈ w0 := List.mem_append_right _ (List.mem_append_right _ (List.mem_append_right _ (List.mem_append_right _ (List.mem_append_right _ (List.mem_append_right _ (List.mem_append_right _ (List.mem_append_right _ (List.mem_append_left _ (List.mem_of_getElem? (i := 28) rfl)))))))))
theorem wm_349 : (.selects R_O y_O_makes y_O_makes : Cond) ∈ w0 := List.mem_append_right _ (List.mem_append_right _ (List.mem_append_right _ (List.mem_append_right _ (List.mem_append_right _ (List.mem_append_right _ (List.mem_append_right _ (List.mem_append_right _ (List.mem_append_left _ (List.mem_of_getElem? (i := 29) rfl)))))))))
theorem wm_350 : (.code y_O_makes prog_9_method_19_code 3 (some .boolean) : Cond) ∈ w0 := List.mem_append_right _ (List.mem_append_right _ (List.mem_append_right _ (List.mem_append_right _ (List.mem_append_right _ (List.mem_append_right _ (List.mem_append_right _ (List.mem_append_right _ (List.mem_append_left _ (List.mem_of_getElem? (i := 30) rfl)))))))))
theorem wm_351 : (.methodLink R_O 89 y_O_isUnder : Cond) ∈ w0 := List.mem_append_right _ (List.mem_append_right _ (List.mem_append_right _ (List.mem_append_right _ (List.mem_append_right _ (List.mem_append_right _ (List.mem_append_right _ (List.mem_append_right _ (List.mem_append_left _ (List.mem_of_getElem? (i := 31) rfl)))))))))
theorem wm_352 : (.static y_O_isUnder : Cond) ∈ w0 := List.mem_append_right _ (List.mem_append_right _ (List.mem_append_right _ (List.mem_append_right _ (List.mem_append_right _ (List.mem_append_right _ (List.mem_append_right _ (List.mem_append_right _ (List.mem_append_left _ (List.mem_of_getElem? (i := 32) rfl)))))))))
theorem wm_353 : (.code y_O_isUnder prog_9_method_14_code 3 (some .boolean) : Cond) ∈ w0 := List.mem_append_right _ (List.mem_append_right _ (List.mem_append_right _ (List.mem_append_right _ (List.mem_append_right _ (List.mem_append_right _ (List.mem_append_right _ (List.mem_append_right _ (List.mem_append_left _ (List.mem_of_getElem? (i := 33) rfl)))))))))
theorem wm_354 : (.methodLink R_O 93 y_O_drop : Cond) ∈ w0 := List.mem_append_right _ (List.mem_append_right _ (List.mem_append_right _ (List.mem_append_right _ (List.mem_append_right _ (List.mem_append_right _ (List.mem_append_right _ (List.mem_append_right _ (List.mem_append_left _ (List.mem_of_getElem? (i := 34) rfl)))))))))
theorem wm_355 : (.instanceMethod y_O_drop : Cond) ∈ w0 := List.mem_append_right _ (List.mem_append_right _ (List.mem_append_right _ (List.mem_append_right _ (List.mem_append_right _ (List.mem_append_right _ (List.mem_append_right _ (List.mem_append_right _ (List.mem_append_left _ (List.mem_of_getElem? (i := 35) rfl)))))))))
theorem wm_356 : (.selects R_O y_O_drop y_O_drop : Cond) ∈ w0 := List.mem_append_right _ (List.mem_append_right _ (List.mem_append_right _ (List.mem_append_right _ (List.mem_append_right _ (List.mem_append_right _ (List.mem_append_right _ (List.mem_append_right _ (List.mem_append_left _ (List.mem_of_getElem? (i := 36) rfl)))))))))
theorem wm_357 : (.code y_O_drop prog_9_method_13_code 5 none : Cond) ∈ w0 := List.mem_append_right _ (List.mem_append_right _ (List.mem_append_right _ (List.mem_append_right _ (List.mem_append_right _ (List.mem_append_right _ (List.mem_append_right _ (List.mem_append_right _ (List.mem_append_left _ (List.mem_of_getElem? (i := 37) rfl)))))))))
theorem wm_358 : (.methodLink R_O 72 y_O_runs : Cond) ∈ w0 := List.mem_append_right _ (List.mem_append_right _ (List.mem_append_right _ (List.mem_append_right _ (List.mem_append_right _ (List.mem_append_right _ (List.mem_append_right _ (List.mem_append_right _ (List.mem_append_left _ (List.mem_of_getElem? (i := 38) rfl)))))))))
theorem wm_359 : (.instanceMethod y_O_runs : Cond) ∈ w0 := List.mem_append_right _ (List.mem_append_right _ (List.mem_append_right _ (List.mem_append_right _ (List.mem_append_right _ (List.mem_append_right _ (List.mem_append_right _ (List.mem_append_right _ (List.mem_append_left _ (List.mem_of_getElem? (i := 39) rfl)))))))))
theorem wm_360 : (.selects R_O y_O_runs y_O_runs : Cond) ∈ w0 := List.mem_append_right _ (List.mem_append_right _ (List.mem_append_right _ (List.mem_append_right _ (List.mem_append_right _ (List.mem_append_right _ (List.mem_append_right _ (List.mem_append_right _ (List.mem_append_right _ (List.mem_append_left _ (List.mem_of_getElem? (i := 0) rfl))))))))))
theorem wm_361 : (.code y_O_runs prog_9_method_3_code 2 (some .boolean) : Cond) ∈ w0 := List.mem_append_right _ (List.mem_append_right _ (List.mem_append_right _ (List.mem_append_right _ (List.mem_append_right _ (List.mem_append_right _ (List.mem_append_right _ (List.mem_append_right _ (List.mem_append_right _ (List.mem_append_left _ (List.mem_of_getElem? (i := 1) rfl))))))))))
theorem wm_362 : (.fieldLink R_O 53 "TextKeeperModel" "textSteps" "I" : Cond) ∈ w0 := List.mem_append_right _ (List.mem_append_right _ (List.mem_append_right _ (List.mem_append_right _ (List.mem_append_right _ (List.mem_append_right _ (List.mem_append_right _ (List.mem_append_right _ (List.mem_append_right _ (List.mem_append_left _ (List.mem_of_getElem? (i := 2) rfl))))))))))
theorem wm_363 : (.fieldLink R_O 50 "TextKeeperModel" "textSize" "I" : Cond) ∈ w0 := List.mem_append_right _ (List.mem_append_right _ (List.mem_append_right _ (List.mem_append_right _ (List.mem_append_right _ (List.mem_append_right _ (List.mem_append_right _ (List.mem_append_right _ (List.mem_append_right _ (List.mem_append_left _ (List.mem_of_getElem? (i := 3) rfl))))))))))
theorem wm_364 : (.fieldLink R_O 47 "TextKeeperModel" "text" "[B" : Cond) ∈ w0 := List.mem_append_right _ (List.mem_append_right _ (List.mem_append_right _ (List.mem_append_right _ (List.mem_append_right _ (List.mem_append_right _ (List.mem_append_right _ (List.mem_append_right _ (List.mem_append_right _ (List.mem_append_left _ (List.mem_of_getElem? (i := 4) rfl))))))))))
theorem wm_365 : (.methodLink R_O 148 y_O_free : Cond) ∈ w0 := List.mem_append_right _ (List.mem_append_right _ (List.mem_append_right _ (List.mem_append_right _ (List.mem_append_right _ (List.mem_append_right _ (List.mem_append_right _ (List.mem_append_right _ (List.mem_append_right _ (List.mem_append_left _ (List.mem_of_getElem? (i := 5) rfl))))))))))
theorem wm_366 : (.instanceMethod y_O_free : Cond) ∈ w0 := List.mem_append_right _ (List.mem_append_right _ (List.mem_append_right _ (List.mem_append_right _ (List.mem_append_right _ (List.mem_append_right _ (List.mem_append_right _ (List.mem_append_right _ (List.mem_append_right _ (List.mem_append_left _ (List.mem_of_getElem? (i := 6) rfl))))))))))
theorem wm_367 : (.selects R_O y_O_free y_O_free : Cond) ∈ w0 := List.mem_append_right _ (List.mem_append_right _ (List.mem_append_right _ (List.mem_append_right _ (List.mem_append_right _ (List.mem_append_right _ (List.mem_append_right _ (List.mem_append_right _ (List.mem_append_right _ (List.mem_append_left _ (List.mem_of_getElem? (i := 7) rfl))))))))))
theorem wm_368 : (.code y_O_free prog_9_method_12_code 3 (some .int) : Cond) ∈ w0 := List.mem_append_right _ (List.mem_append_right _ (List.mem_append_right _ (List.mem_append_right _ (List.mem_append_right _ (List.mem_append_right _ (List.mem_append_right _ (List.mem_append_right _ (List.mem_append_right _ (List.mem_append_left _ (List.mem_of_getElem? (i := 8) rfl))))))))))
theorem wm_369 : (.methodLink R_O 97 y_O_writes : Cond) ∈ w0 := List.mem_append_right _ (List.mem_append_right _ (List.mem_append_right _ (List.mem_append_right _ (List.mem_append_right _ (List.mem_append_right _ (List.mem_append_right _ (List.mem_append_right _ (List.mem_append_right _ (List.mem_append_left _ (List.mem_of_getElem? (i := 9) rfl))))))))))
theorem wm_370 : (.instanceMethod y_O_writes : Cond) ∈ w0 := List.mem_append_right _ (List.mem_append_right _ (List.mem_append_right _ (List.mem_append_right _ (List.mem_append_right _ (List.mem_append_right _ (List.mem_append_right _ (List.mem_append_right _ (List.mem_append_right _ (List.mem_append_left _ (List.mem_of_getElem? (i := 10) rfl))))))))))
theorem wm_371 : (.selects R_O y_O_writes y_O_writes : Cond) ∈ w0 := List.mem_append_right _ (List.mem_append_right _ (List.mem_append_right _ (List.mem_append_right _ (List.mem_append_right _ (List.mem_append_right _ (List.mem_append_right _ (List.mem_append_right _ (List.mem_append_right _ (List.mem_append_left _ (List.mem_of_getElem? (i := 11) rfl))))))))))
theorem wm_372 : (.code y_O_writes prog_9_method_4_code 2 (some .boolean) : Cond) ∈ w0 := List.mem_append_right _ (List.mem_append_right _ (List.mem_append_right _ (List.mem_append_right _ (List.mem_append_right _ (List.mem_append_right _ (List.mem_append_right _ (List.mem_append_right _ (List.mem_append_right _ (List.mem_append_left _ (List.mem_of_getElem? (i := 12) rfl))))))))))
theorem wm_373 : (.methodLink R_O 156 y_O_isAsked : Cond) ∈ w0 := List.mem_append_right _ (List.mem_append_right _ (List.mem_append_right _ (List.mem_append_right _ (List.mem_append_right _ (List.mem_append_right _ (List.mem_append_right _ (List.mem_append_right _ (List.mem_append_right _ (List.mem_append_left _ (List.mem_of_getElem? (i := 13) rfl))))))))))
theorem wm_374 : (.instanceMethod y_O_isAsked : Cond) ∈ w0 := List.mem_append_right _ (List.mem_append_right _ (List.mem_append_right _ (List.mem_append_right _ (List.mem_append_right _ (List.mem_append_right _ (List.mem_append_right _ (List.mem_append_right _ (List.mem_append_right _ (List.mem_append_left _ (List.mem_of_getElem? (i := 14) rfl))))))))))
theorem wm_375 : (.selects R_O y_O_isAsked y_O_isAsked : Cond) ∈ w0 := List.mem_append_right _ (List.mem_append_right _ (List.mem_append_right _ (List.mem_append_right _ (List.mem_append_right _ (List.mem_append_right _ (List.mem_append_right _ (List.mem_append_right _ (List.mem_append_right _ (List.mem_append_left _ (List.mem_of_getElem? (i := 15) rfl))))))))))
theorem wm_376 : (.code y_O_isAsked prog_9_method_8_code 3 (some .boolean) : Cond) ∈ w0 := List.mem_append_right _ (List.mem_append_right _ (List.mem_append_right _ (List.mem_append_right _ (List.mem_append_right _ (List.mem_append_right _ (List.mem_append_right _ (List.mem_append_right _ (List.mem_append_right _ (List.mem_append_left _ (List.mem_of_getElem? (i := 16) rfl))))))))))
theorem wm_377 : (.methodLink R_O 159 y_O_cleans : Cond) ∈ w0 := List.mem_append_right _ (List.mem_append_right _ (List.mem_append_right _ (List.mem_append_right _ (List.mem_append_right _ (List.mem_append_right _ (List.mem_append_right _ (List.mem_append_right _ (List.mem_append_right _ (List.mem_append_left _ (List.mem_of_getElem? (i := 17) rfl))))))))))
theorem wm_378 : (.instanceMethod y_O_cleans : Cond) ∈ w0 := List.mem_append_right _ (List.mem_append_right _ (List.mem_append_right _ (List.mem_append_right _ (List.mem_append_right _ (List.mem_append_right _ (List.mem_append_right _ (List.mem_append_right _ (List.mem_append_right _ (List.mem_append_left _ (List.mem_of_getElem? (i := 18) rfl))))))))))
theorem wm_379 : (.selects R_O y_O_cleans y_O_cleans : Cond) ∈ w0 := List.mem_append_right _ (List.mem_append_right _ (List.mem_append_right _ (List.mem_append_right _ (List.mem_append_right _ (List.mem_append_right _ (List.mem_append_right _ (List.mem_append_right _ (List.mem_append_right _ (List.mem_append_left _ (List.mem_of_getElem? (i := 19) rfl))))))))))
theorem wm_380 : (.code y_O_cleans prog_9_method_15_code 5 none : Cond) ∈ w0 := List.mem_append_right _ (List.mem_append_right _ (List.mem_append_right _ (List.mem_append_right _ (List.mem_append_right _ (List.mem_append_right _ (List.mem_append_right _ (List.mem_append_right _ (List.mem_append_right _ (List.mem_append_left _ (List.mem_of_getElem? (i := 20) rfl))))))))))
theorem wm_381 : (.methodLink R_O 162 y_O_kept : Cond) ∈ w0 := List.mem_append_right _ (List.mem_append_right _ (List.mem_append_right _ (List.mem_append_right _ (List.mem_append_right _ (List.mem_append_right _ (List.mem_append_right _ (List.mem_append_right _ (List.mem_append_right _ (List.mem_append_left _ (List.mem_of_getElem? (i := 21) rfl))))))))))
theorem wm_382 : (.instanceMethod y_O_kept : Cond) ∈ w0 := List.mem_append_right _ (List.mem_append_right _ (List.mem_append_right _ (List.mem_append_right _ (List.mem_append_right _ (List.mem_append_right _ (List.mem_append_right _ (List.mem_append_right _ (List.mem_append_right _ (List.mem_append_left _ (List.mem_of_getElem? (i := 22) rfl))))))))))
theorem wm_383 : (.selects R_O y_O_kept y_O_kept : Cond) ∈ w0 := List.mem_append_right _ (List.mem_append_right _ (List.mem_append_right _ (List.mem_append_right _ (List.mem_append_right _ (List.mem_append_right _ (List.mem_append_right _ (List.mem_append_right _ (List.mem_append_right _ (List.mem_append_left _ (List.mem_of_getElem? (i := 23) rfl))))))))))
theorem wm_384 : (.code y_O_kept prog_9_method_9_code 3 (some .int) : Cond) ∈ w0 := List.mem_append_right _ (List.mem_append_right _ (List.mem_append_right _ (List.mem_append_right _ (List.mem_append_right _ (List.mem_append_right _ (List.mem_append_right _ (List.mem_append_right _ (List.mem_append_right _ (List.mem_append_left _ (List.mem_of_getElem? (i := 24) rfl))))))))))
theorem wm_385 : (.methodLink R_O 142 y_O_again : Cond) ∈ w0 := List.mem_append_right _ (List.mem_append_right _ (List.mem_append_right _ (List.mem_append_right _ (List.mem_append_right _ (List.mem_append_right _ (List.mem_append_right _ (List.mem_append_right _ (List.mem_append_right _ (List.mem_append_left _ (List.mem_of_getElem? (i := 25) rfl))))))))))
theorem wm_386 : (.instanceMethod y_O_again : Cond) ∈ w0 := List.mem_append_right _ (List.mem_append_right _ (List.mem_append_right _ (List.mem_append_right _ (List.mem_append_right _ (List.mem_append_right _ (List.mem_append_right _ (List.mem_append_right _ (List.mem_append_right _ (List.mem_append_left _ (List.mem_of_getElem? (i := 26) rfl))))))))))
theorem wm_387 : (.selects R_O y_O_again y_O_again : Cond) ∈ w0 := List.mem_append_right _ (List.mem_append_right _ (List.mem_append_right _ (List.mem_append_right _ (List.mem_append_right _ (List.mem_append_right _ (List.mem_append_right _ (List.mem_append_right _ (List.mem_append_right _ (List.mem_append_left _ (List.mem_of_getElem? (i := 27) rfl))))))))))
theorem wm_388 : (.code y_O_again prog_9_method_20_code 5 (some .boolean) : Cond) ∈ w0 := List.mem_append_right _ (List.mem_append_right _ (List.mem_append_right _ (List.mem_append_right _ (List.mem_append_right _ (List.mem_append_right _ (List.mem_append_right _ (List.mem_append_right _ (List.mem_append_right _ (List.mem_append_left _ (List.mem_of_getElem? (i := 28) rfl))))))))))
theorem wm_389 : (.methodLink R_O 145 y_O_pieces : Cond) ∈ w0 := List.mem_append_right _ (List.mem_append_right _ (List.mem_append_right _ (List.mem_append_right _ (List.mem_append_right _ (List.mem_append_right _ (List.mem_append_right _ (List.mem_append_right _ (List.mem_append_right _ (List.mem_append_left _ (List.mem_of_getElem? (i := 29) rfl))))))))))
theorem wm_390 : (.instanceMethod y_O_pieces : Cond) ∈ w0 := List.mem_append_right _ (List.mem_append_right _ (List.mem_append_right _ (List.mem_append_right _ (List.mem_append_right _ (List.mem_append_right _ (List.mem_append_right _ (List.mem_append_right _ (List.mem_append_right _ (List.mem_append_left _ (List.mem_of_getElem? (i := 30) rfl))))))))))
theorem wm_391 : (.selects R_O y_O_pieces y_O_pieces : Cond) ∈ w0 := List.mem_append_right _ (List.mem_append_right _ (List.mem_append_right _ (List.mem_append_right _ (List.mem_append_right _ (List.mem_append_right _ (List.mem_append_right _ (List.mem_append_right _ (List.mem_append_right _ (List.mem_append_left _ (List.mem_of_getElem? (i := 31) rfl))))))))))
theorem wm_392 : (.code y_O_pieces prog_9_method_25_code 7 none : Cond) ∈ w0 := List.mem_append_right _ (List.mem_append_right _ (List.mem_append_right _ (List.mem_append_right _ (List.mem_append_right _ (List.mem_append_right _ (List.mem_append_right _ (List.mem_append_right _ (List.mem_append_right _ (List.mem_append_left _ (List.mem_of_getElem? (i := 32) rfl))))))))))
theorem wm_393 : (.fieldLink R_O 32 "TextKeeperModel" "authors" "[I" : Cond) ∈ w0 := List.mem_append_right _ (List.mem_append_right _ (List.mem_append_right _ (List.mem_append_right _ (List.mem_append_right _ (List.mem_append_right _ (List.mem_append_right _ (List.mem_append_right _ (List.mem_append_right _ (List.mem_append_left _ (List.mem_of_getElem? (i := 33) rfl))))))))))
theorem wm_394 : (.fieldLink R_O 35 "TextKeeperModel" "sums" "[I" : Cond) ∈ w0 := List.mem_append_right _ (List.mem_append_right _ (List.mem_append_right _ (List.mem_append_right _ (List.mem_append_right _ (List.mem_append_right _ (List.mem_append_right _ (List.mem_append_right _ (List.mem_append_right _ (List.mem_append_left _ (List.mem_of_getElem? (i := 34) rfl))))))))))
theorem wm_395 : (.methodLink R_O 152 y_O_sum : Cond) ∈ w0 := List.mem_append_right _ (List.mem_append_right _ (List.mem_append_right _ (List.mem_append_right _ (List.mem_append_right _ (List.mem_append_right _ (List.mem_append_right _ (List.mem_append_right _ (List.mem_append_right _ (List.mem_append_left _ (List.mem_of_getElem? (i := 35) rfl))))))))))
theorem wm_396 : (.instanceMethod y_O_sum : Cond) ∈ w0 := List.mem_append_right _ (List.mem_append_right _ (List.mem_append_right _ (List.mem_append_right _ (List.mem_append_right _ (List.mem_append_right _ (List.mem_append_right _ (List.mem_append_right _ (List.mem_append_right _ (List.mem_append_left _ (List.mem_of_getElem? (i := 36) rfl))))))))))
theorem wm_397 : (.selects R_O y_O_sum y_O_sum : Cond) ∈ w0 := List.mem_append_right _ (List.mem_append_right _ (List.mem_append_right _ (List.mem_append_right _ (List.mem_append_right _ (List.mem_append_right _ (List.mem_append_right _ (List.mem_append_right _ (List.mem_append_right _ (List.mem_append_left _ (List.mem_of_getElem? (i := 37) rfl))))))))))
theorem wm_398 : (.code y_O_sum prog_9_method_26_code 5 (some .int) : Cond) ∈ w0 := List.mem_append_right _ (List.mem_append_right _ (List.mem_append_right _ (List.mem_append_right _ (List.mem_append_right _ (List.mem_append_right _ (List.mem_append_right _ (List.mem_append_right _ (List.mem_append_right _ (List.mem_append_left _ (List.mem_of_getElem? (i := 38) rfl))))))))))
theorem wm_399 : (.methodLink R_K 74 y_K_documentAt : Cond) ∈ w0 := List.mem_append_right _ (List.mem_append_right _ (List.mem_append_right _ (List.mem_append_right _ (List.mem_append_right _ (List.mem_append_right _ (List.mem_append_right _ (List.mem_append_right _ (List.mem_append_right _ (List.mem_append_left _ (List.mem_of_getElem? (i := 39) rfl))))))))))
theorem wm_400 : (.instanceMethod y_K_documentAt : Cond) ∈ w0 := List.mem_append_right _ (List.mem_append_right _ (List.mem_append_right _ (List.mem_append_right _ (List.mem_append_right _ (List.mem_append_right _ (List.mem_append_right _ (List.mem_append_right _ (List.mem_append_right _ (List.mem_append_right _ (List.mem_append_left _ (List.mem_of_getElem? (i := 0) rfl)))))))))))
theorem wm_401 : (.selects R_K y_K_documentAt y_K_documentAt : Cond) ∈ w0 := List.mem_append_right _ (List.mem_append_right _ (List.mem_append_right _ (List.mem_append_right _ (List.mem_append_right _ (List.mem_append_right _ (List.mem_append_right _ (List.mem_append_right _ (List.mem_append_right _ (List.mem_append_right _ (List.mem_append_left _ (List.mem_of_getElem? (i := 1) rfl)))))))))))
theorem wm_402 : (.code y_K_documentAt prog_1_method_23_code 2 (some (.object "TextKeeper$Document")) : Cond) ∈ w0 := List.mem_append_right _ (List.mem_append_right _ (List.mem_append_right _ (List.mem_append_right _ (List.mem_append_right _ (List.mem_append_right _ (List.mem_append_right _ (List.mem_append_right _ (List.mem_append_right _ (List.mem_append_right _ (List.mem_append_left _ (List.mem_of_getElem? (i := 2) rfl)))))))))))
theorem wm_403 : (.methodLink R_K 193 y_D_keptAt : Cond) ∈ w0 := List.mem_append_right _ (List.mem_append_right _ (List.mem_append_right _ (List.mem_append_right _ (List.mem_append_right _ (List.mem_append_right _ (List.mem_append_right _ (List.mem_append_right _ (List.mem_append_right _ (List.mem_append_right _ (List.mem_append_left _ (List.mem_of_getElem? (i := 3) rfl)))))))))))
theorem wm_404 : (.methodLink R_K 56 y_K_needPower : Cond) ∈ w0 := List.mem_append_right _ (List.mem_append_right _ (List.mem_append_right _ (List.mem_append_right _ (List.mem_append_right _ (List.mem_append_right _ (List.mem_append_right _ (List.mem_append_right _ (List.mem_append_right _ (List.mem_append_right _ (List.mem_append_left _ (List.mem_of_getElem? (i := 4) rfl)))))))))))
theorem wm_405 : (.instanceMethod y_K_needPower : Cond) ∈ w0 := List.mem_append_right _ (List.mem_append_right _ (List.mem_append_right _ (List.mem_append_right _ (List.mem_append_right _ (List.mem_append_right _ (List.mem_append_right _ (List.mem_append_right _ (List.mem_append_right _ (List.mem_append_right _ (List.mem_append_left _ (List.mem_of_getElem? (i := 5) rfl)))))))))))
theorem wm_406 : (.selects R_K y_K_needPower y_K_needPower : Cond) ∈ w0 := List.mem_append_right _ (List.mem_append_right _ (List.mem_append_right _ (List.mem_append_right _ (List.mem_append_right _ (List.mem_append_right _ (List.mem_append_right _ (List.mem_append_right _ (List.mem_append_right _ (List.mem_append_right _ (List.mem_append_left _ (List.mem_of_getElem? (i := 6) rfl)))))))))))
theorem wm_407 : (.code y_K_needPower prog_1_method_21_code 1 none : Cond) ∈ w0 := List.mem_append_right _ (List.mem_append_right _ (List.mem_append_right _ (List.mem_append_right _ (List.mem_append_right _ (List.mem_append_right _ (List.mem_append_right _ (List.mem_append_right _ (List.mem_append_right _ (List.mem_append_right _ (List.mem_append_left _ (List.mem_of_getElem? (i := 7) rfl)))))))))))
theorem wm_408 : (.methodLink R_K 59 y_T_hasRoom : Cond) ∈ w0 := List.mem_append_right _ (List.mem_append_right _ (List.mem_append_right _ (List.mem_append_right _ (List.mem_append_right _ (List.mem_append_right _ (List.mem_append_right _ (List.mem_append_right _ (List.mem_append_right _ (List.mem_append_right _ (List.mem_append_left _ (List.mem_of_getElem? (i := 8) rfl)))))))))))
theorem wm_409 : (.methodLink R_K 63 y_T_addInt : Cond) ∈ w0 := List.mem_append_right _ (List.mem_append_right _ (List.mem_append_right _ (List.mem_append_right _ (List.mem_append_right _ (List.mem_append_right _ (List.mem_append_right _ (List.mem_append_right _ (List.mem_append_right _ (List.mem_append_right _ (List.mem_append_left _ (List.mem_of_getElem? (i := 9) rfl)))))))))))
theorem wm_410 : (.instanceMethod y_T_addInt : Cond) ∈ w0 := List.mem_append_right _ (List.mem_append_right _ (List.mem_append_right _ (List.mem_append_right _ (List.mem_append_right _ (List.mem_append_right _ (List.mem_append_right _ (List.mem_append_right _ (List.mem_append_right _ (List.mem_append_right _ (List.mem_append_left _ (List.mem_of_getElem? (i := 10) rfl)))))))))))
theorem wm_411 : (.selects R_T y_T_addInt y_T_addInt : Cond) ∈ w0 := List.mem_append_right _ (List.mem_append_right _ (List.mem_append_right _ (List.mem_append_right _ (List.mem_append_right _ (List.mem_append_right _ (List.mem_append_right _ (List.mem_append_right _ (List.mem_append_right _ (List.mem_append_right _ (List.mem_append_left _ (List.mem_of_getElem? (i := 11) rfl)))))))))))
theorem wm_412 : (.code y_T_addInt prog_7_method_5_code 3 none : Cond) ∈ w0 := List.mem_append_right _ (List.mem_append_right _ (List.mem_append_right _ (List.mem_append_right _ (List.mem_append_right _ (List.mem_append_right _ (List.mem_append_right _ (List.mem_append_right _ (List.mem_append_right _ (List.mem_append_right _ (List.mem_append_left _ (List.mem_of_getElem? (i := 12) rfl)))))))))))
theorem wm_413 : (.methodLink R_K 67 y_T_shorten : Cond) ∈ w0 := List.mem_append_right _ (List.mem_append_right _ (List.mem_append_right _ (List.mem_append_right _ (List.mem_append_right _ (List.mem_append_right _ (List.mem_append_right _ (List.mem_append_right _ (List.mem_append_right _ (List.mem_append_right _ (List.mem_append_left _ (List.mem_of_getElem? (i := 13) rfl)))))))))))
theorem wm_414 : (.methodLink R_K 134 y_T_byteAt : Cond) ∈ w0 := List.mem_append_right _ (List.mem_append_right _ (List.mem_append_right _ (List.mem_append_right _ (List.mem_append_right _ (List.mem_append_right _ (List.mem_append_right _ (List.mem_append_right _ (List.mem_append_right _ (List.mem_append_right _ (List.mem_append_left _ (List.mem_of_getElem? (i := 14) rfl)))))))))))
theorem wm_415 : (.methodLink R_K 177 y_P_goAfter : Cond) ∈ w0 := List.mem_append_right _ (List.mem_append_right _ (List.mem_append_right _ (List.mem_append_right _ (List.mem_append_right _ (List.mem_append_right _ (List.mem_append_right _ (List.mem_append_right _ (List.mem_append_right _ (List.mem_append_right _ (List.mem_append_left _ (List.mem_of_getElem? (i := 15) rfl)))))))))))
theorem wm_416 : (.instanceMethod y_P_goAfter : Cond) ∈ w0 := List.mem_append_right _ (List.mem_append_right _ (List.mem_append_right _ (List.mem_append_right _ (List.mem_append_right _ (List.mem_append_right _ (List.mem_append_right _ (List.mem_append_right _ (List.mem_append_right _ (List.mem_append_right _ (List.mem_append_left _ (List.mem_of_getElem? (i := 16) rfl)))))))))))
theorem wm_417 : (.selects R_P y_P_goAfter y_P_goAfter : Cond) ∈ w0 := List.mem_append_right _ (List.mem_append_right _ (List.mem_append_right _ (List.mem_append_right _ (List.mem_append_right _ (List.mem_append_right _ (List.mem_append_right _ (List.mem_append_right _ (List.mem_append_right _ (List.mem_append_right _ (List.mem_append_left _ (List.mem_of_getElem? (i := 17) rfl)))))))))))
theorem wm_418 : (.code y_P_goAfter prog_5_method_2_code 2 none : Cond) ∈ w0 := List.mem_append_right _ (List.mem_append_right _ (List.mem_append_right _ (List.mem_append_right _ (List.mem_append_right _ (List.mem_append_right _ (List.mem_append_right _ (List.mem_append_right _ (List.mem_append_right _ (List.mem_append_right _ (List.mem_append_left _ (List.mem_of_getElem? (i := 18) rfl)))))))))))
theorem wm_419 : (.methodLink R_K 184 y_P_comeBack : Cond) ∈ w0 := List.mem_append_right _ (List.mem_append_right _ (List.mem_append_right _ (List.mem_append_right _ (List.mem_append_right _ (List.mem_append_right _ (List.mem_append_right _ (List.mem_append_right _ (List.mem_append_right _ (List.mem_append_right _ (List.mem_append_left _ (List.mem_of_getElem? (i := 19) rfl)))))))))))
theorem wm_420 : (.instanceMethod y_P_comeBack : Cond) ∈ w0 := List.mem_append_right _ (List.mem_append_right _ (List.mem_append_right _ (List.mem_append_right _ (List.mem_append_right _ (List.mem_append_right _ (List.mem_append_right _ (List.mem_append_right _ (List.mem_append_right _ (List.mem_append_right _ (List.mem_append_left _ (List.mem_of_getElem? (i := 20) rfl)))))))))))
theorem wm_421 : (.selects R_P y_P_comeBack y_P_comeBack : Cond) ∈ w0 := List.mem_append_right _ (List.mem_append_right _ (List.mem_append_right _ (List.mem_append_right _ (List.mem_append_right _ (List.mem_append_right _ (List.mem_append_right _ (List.mem_append_right _ (List.mem_append_right _ (List.mem_append_right _ (List.mem_append_left _ (List.mem_of_getElem? (i := 21) rfl)))))))))))
theorem wm_422 : (.code y_P_comeBack prog_5_method_3_code 1 none : Cond) ∈ w0 := List.mem_append_right _ (List.mem_append_right _ (List.mem_append_right _ (List.mem_append_right _ (List.mem_append_right _ (List.mem_append_right _ (List.mem_append_right _ (List.mem_append_right _ (List.mem_append_right _ (List.mem_append_right _ (List.mem_append_left _ (List.mem_of_getElem? (i := 22) rfl)))))))))))
theorem wm_423 : (.methodLink R_K 190 y_P_lastsFor : Cond) ∈ w0 := List.mem_append_right _ (List.mem_append_right _ (List.mem_append_right _ (List.mem_append_right _ (List.mem_append_right _ (List.mem_append_right _ (List.mem_append_right _ (List.mem_append_right _ (List.mem_append_right _ (List.mem_append_right _ (List.mem_append_left _ (List.mem_of_getElem? (i := 23) rfl)))))))))))
theorem wm_424 : (.instanceMethod y_P_lastsFor : Cond) ∈ w0 := List.mem_append_right _ (List.mem_append_right _ (List.mem_append_right _ (List.mem_append_right _ (List.mem_append_right _ (List.mem_append_right _ (List.mem_append_right _ (List.mem_append_right _ (List.mem_append_right _ (List.mem_append_right _ (List.mem_append_left _ (List.mem_of_getElem? (i := 24) rfl)))))))))))
theorem wm_425 : (.selects R_P y_P_lastsFor y_P_lastsFor : Cond) ∈ w0 := List.mem_append_right _ (List.mem_append_right _ (List.mem_append_right _ (List.mem_append_right _ (List.mem_append_right _ (List.mem_append_right _ (List.mem_append_right _ (List.mem_append_right _ (List.mem_append_right _ (List.mem_append_right _ (List.mem_append_left _ (List.mem_of_getElem? (i := 25) rfl)))))))))))
theorem wm_426 : (.code y_P_lastsFor prog_5_method_4_code 2 (some .boolean) : Cond) ∈ w0 := List.mem_append_right _ (List.mem_append_right _ (List.mem_append_right _ (List.mem_append_right _ (List.mem_append_right _ (List.mem_append_right _ (List.mem_append_right _ (List.mem_append_right _ (List.mem_append_right _ (List.mem_append_right _ (List.mem_append_left _ (List.mem_of_getElem? (i := 26) rfl)))))))))))
theorem wm_427 : (.methodLink R_K 149 y_K_keptRevision : Cond) ∈ w0 := List.mem_append_right _ (List.mem_append_right _ (List.mem_append_right _ (List.mem_append_right _ (List.mem_append_right _ (List.mem_append_right _ (List.mem_append_right _ (List.mem_append_right _ (List.mem_append_right _ (List.mem_append_right _ (List.mem_append_left _ (List.mem_of_getElem? (i := 27) rfl)))))))))))
theorem wm_428 : (.instanceMethod y_K_keptRevision : Cond) ∈ w0 := List.mem_append_right _ (List.mem_append_right _ (List.mem_append_right _ (List.mem_append_right _ (List.mem_append_right _ (List.mem_append_right _ (List.mem_append_right _ (List.mem_append_right _ (List.mem_append_right _ (List.mem_append_right _ (List.mem_append_left _ (List.mem_of_getElem? (i := 28) rfl)))))))))))
theorem wm_429 : (.selects R_K y_K_keptRevision y_K_keptRevision : Cond) ∈ w0 := List.mem_append_right _ (List.mem_append_right _ (List.mem_append_right _ (List.mem_append_right _ (List.mem_append_right _ (List.mem_append_right _ (List.mem_append_right _ (List.mem_append_right _ (List.mem_append_right _ (List.mem_append_right _ (List.mem_append_left _ (List.mem_of_getElem? (i := 29) rfl)))))))))))
theorem wm_430 : (.code y_K_keptRevision prog_1_method_24_code 4 (some (.object "TextKeeper$Revision")) : Cond) ∈ w0 := List.mem_append_right _ (List.mem_append_right _ (List.mem_append_right _ (List.mem_append_right _ (List.mem_append_right _ (List.mem_append_right _ (List.mem_append_right _ (List.mem_append_right _ (List.mem_append_right _ (List.mem_append_right _ (List.mem_append_left _ (List.mem_of_getElem? (i := 30) rfl)))))))))))
theorem wm_431 : (.methodLink R_K 162 y_V_hasByte : Cond) ∈ w0 := List.mem_append_right _ (List.mem_append_right _ (List.mem_append_right _ (List.mem_append_right _ (List.mem_append_right _ (List.mem_append_right _ (List.mem_append_right _ (List.mem_append_right _ (List.mem_append_right _ (List.mem_append_right _ (List.mem_append_left _ (List.mem_of_getElem? (i := 31) rfl)))))))))))
theorem wm_432 : (.instanceMethod y_V_hasByte : Cond) ∈ w0 := List.mem_append_right _ (List.mem_append_right _ (List.mem_append_right _ (List.mem_append_right _ (List.mem_append_right _ (List.mem_append_right _ (List.mem_append_right _ (List.mem_append_right _ (List.mem_append_right _ (List.mem_append_right _ (List.mem_append_left _ (List.mem_of_getElem? (i := 32) rfl)))))))))))
theorem wm_433 : (.selects R_V y_V_hasByte y_V_hasByte : Cond) ∈ w0 := List.mem_append_right _ (List.mem_append_right _ (List.mem_append_right _ (List.mem_append_right _ (List.mem_append_right _ (List.mem_append_right _ (List.mem_append_right _ (List.mem_append_right _ (List.mem_append_right _ (List.mem_append_right _ (List.mem_append_left _ (List.mem_of_getElem? (i := 33) rfl)))))))))))
theorem wm_434 : (.initialized R_V : Cond) ∈ w0 := List.mem_append_right _ (List.mem_append_right _ (List.mem_append_right _ (List.mem_append_right _ (List.mem_append_right _ (List.mem_append_right _ (List.mem_append_right _ (List.mem_append_right _ (List.mem_append_right _ (List.mem_append_right _ (List.mem_append_left _ (List.mem_of_getElem? (i := 34) rfl)))))))))))
theorem wm_435 : (.code y_V_hasByte prog_6_method_2_code 2 (some .boolean) : Cond) ∈ w0 := List.mem_append_right _ (List.mem_append_right _ (List.mem_append_right _ (List.mem_append_right _ (List.mem_append_right _ (List.mem_append_right _ (List.mem_append_right _ (List.mem_append_right _ (List.mem_append_right _ (List.mem_append_right _ (List.mem_append_left _ (List.mem_of_getElem? (i := 35) rfl)))))))))))
theorem wm_436 : (.methodLink R_K 70 y_K_spendWrites : Cond) ∈ w0 := List.mem_append_right _ (List.mem_append_right _ (List.mem_append_right _ (List.mem_append_right _ (List.mem_append_right _ (List.mem_append_right _ (List.mem_append_right _ (List.mem_append_right _ (List.mem_append_right _ (List.mem_append_right _ (List.mem_append_left _ (List.mem_of_getElem? (i := 36) rfl)))))))))))
theorem wm_437 : (.instanceMethod y_K_spendWrites : Cond) ∈ w0 := List.mem_append_right _ (List.mem_append_right _ (List.mem_append_right _ (List.mem_append_right _ (List.mem_append_right _ (List.mem_append_right _ (List.mem_append_right _ (List.mem_append_right _ (List.mem_append_right _ (List.mem_append_right _ (List.mem_append_left _ (List.mem_of_getElem? (i := 37) rfl)))))))))))
theorem wm_438 : (.selects R_K y_K_spendWrites y_K_spendWrites : Cond) ∈ w0 := List.mem_append_right _ (List.mem_append_right _ (List.mem_append_right _ (List.mem_append_right _ (List.mem_append_right _ (List.mem_append_right _ (List.mem_append_right _ (List.mem_append_right _ (List.mem_append_right _ (List.mem_append_right _ (List.mem_append_left _ (List.mem_of_getElem? (i := 38) rfl)))))))))))
theorem wm_439 : (.code y_K_spendWrites prog_1_method_22_code 2 none : Cond) ∈ w0 := List.mem_append_right _ (List.mem_append_right _ (List.mem_append_right _ (List.mem_append_right _ (List.mem_append_right _ (List.mem_append_right _ (List.mem_append_right _ (List.mem_append_right _ (List.mem_append_right _ (List.mem_append_right _ (List.mem_append_left _ (List.mem_of_getElem? (i := 39) rfl)))))))))))
theorem wm_440 : (.instantiable R_D 3 : Cond) ∈ w0 := List.mem_append_right _ (List.mem_append_right _ (List.mem_append_right _ (List.mem_append_right _ (List.mem_append_right _ (List.mem_append_right _ (List.mem_append_right _ (List.mem_append_right _ (List.mem_append_right _ (List.mem_append_right _ (List.mem_append_right _ (List.mem_append_left _ (List.mem_of_getElem? (i := 0) rfl))))))))))))
theorem wm_441 : (.code y_D_init prog_2_method_1_code 1 none : Cond) ∈ w0 := List.mem_append_right _ (List.mem_append_right _ (List.mem_append_right _ (List.mem_append_right _ (List.mem_append_right _ (List.mem_append_right _ (List.mem_append_right _ (List.mem_append_right _ (List.mem_append_right _ (List.mem_append_right _ (List.mem_append_right _ (List.mem_append_left _ (List.mem_of_getElem? (i := 1) rfl))))))))))))
theorem wm_442 : (.methodLink R_K 73 y_D_init : Cond) ∈ w0 := List.mem_append_right _ (List.mem_append_right _ (List.mem_append_right _ (List.mem_append_right _ (List.mem_append_right _ (List.mem_append_right _ (List.mem_append_right _ (List.mem_append_right _ (List.mem_append_right _ (List.mem_append_right _ (List.mem_append_right _ (List.mem_append_left _ (List.mem_of_getElem? (i := 2) rfl))))))))))))
theorem wm_443 : (.instanceMethod y_D_init : Cond) ∈ w0 := List.mem_append_right _ (List.mem_append_right _ (List.mem_append_right _ (List.mem_append_right _ (List.mem_append_right _ (List.mem_append_right _ (List.mem_append_right _ (List.mem_append_right _ (List.mem_append_right _ (List.mem_append_right _ (List.mem_append_right _ (List.mem_append_left _ (List.mem_of_getElem? (i := 3) rfl))))))))))))
theorem wm_444 : (.methodLink R_K 197 y_D_countBlocks : Cond) ∈ w0 := List.mem_append_right _ (List.mem_append_right _ (List.mem_append_right _ (List.mem_append_right _ (List.mem_append_right _ (List.mem_append_right _ (List.mem_append_right _ (List.mem_append_right _ (List.mem_append_right _ (List.mem_append_right _ (List.mem_append_right _ (List.mem_append_left _ (List.mem_of_getElem? (i := 4) rfl))))))))))))
theorem wm_445 : (.instanceMethod y_D_countBlocks : Cond) ∈ w0 := List.mem_append_right _ (List.mem_append_right _ (List.mem_append_right _ (List.mem_append_right _ (List.mem_append_right _ (List.mem_append_right _ (List.mem_append_right _ (List.mem_append_right _ (List.mem_append_right _ (List.mem_append_right _ (List.mem_append_right _ (List.mem_append_left _ (List.mem_of_getElem? (i := 5) rfl))))))))))))
theorem wm_446 : (.selects R_D y_D_countBlocks y_D_countBlocks : Cond) ∈ w0 := List.mem_append_right _ (List.mem_append_right _ (List.mem_append_right _ (List.mem_append_right _ (List.mem_append_right _ (List.mem_append_right _ (List.mem_append_right _ (List.mem_append_right _ (List.mem_append_right _ (List.mem_append_right _ (List.mem_append_right _ (List.mem_append_left _ (List.mem_of_getElem? (i := 6) rfl))))))))))))
theorem wm_447 : (.code y_D_countBlocks prog_2_method_8_code 3 (some .int) : Cond) ∈ w0 := List.mem_append_right _ (List.mem_append_right _ (List.mem_append_right _ (List.mem_append_right _ (List.mem_append_right _ (List.mem_append_right _ (List.mem_append_right _ (List.mem_append_right _ (List.mem_append_right _ (List.mem_append_right _ (List.mem_append_right _ (List.mem_append_left _ (List.mem_of_getElem? (i := 7) rfl))))))))))))
theorem wm_448 : (.methodLink R_K 97 y_K_countFree : Cond) ∈ w0 := List.mem_append_right _ (List.mem_append_right _ (List.mem_append_right _ (List.mem_append_right _ (List.mem_append_right _ (List.mem_append_right _ (List.mem_append_right _ (List.mem_append_right _ (List.mem_append_right _ (List.mem_append_right _ (List.mem_append_right _ (List.mem_append_left _ (List.mem_of_getElem? (i := 8) rfl))))))))))))
theorem wm_449 : (.instanceMethod y_K_countFree : Cond) ∈ w0 := List.mem_append_right _ (List.mem_append_right _ (List.mem_append_right _ (List.mem_append_right _ (List.mem_append_right _ (List.mem_append_right _ (List.mem_append_right _ (List.mem_append_right _ (List.mem_append_right _ (List.mem_append_right _ (List.mem_append_right _ (List.mem_append_left _ (List.mem_of_getElem? (i := 9) rfl))))))))))))
theorem wm_450 : (.selects R_K y_K_countFree y_K_countFree : Cond) ∈ w0 := List.mem_append_right _ (List.mem_append_right _ (List.mem_append_right _ (List.mem_append_right _ (List.mem_append_right _ (List.mem_append_right _ (List.mem_append_right _ (List.mem_append_right _ (List.mem_append_right _ (List.mem_append_right _ (List.mem_append_right _ (List.mem_append_left _ (List.mem_of_getElem? (i := 10) rfl))))))))))))
theorem wm_451 : (.code y_K_countFree prog_1_method_26_code 6 (some .int) : Cond) ∈ w0 := List.mem_append_right _ (List.mem_append_right _ (List.mem_append_right _ (List.mem_append_right _ (List.mem_append_right _ (List.mem_append_right _ (List.mem_append_right _ (List.mem_append_right _ (List.mem_append_right _ (List.mem_append_right _ (List.mem_append_right _ (List.mem_append_left _ (List.mem_of_getElem? (i := 11) rfl))))))))))))
theorem wm_452 : (.methodLink R_K 116 y_D_canBeAsked : Cond) ∈ w0 := List.mem_append_right _ (List.mem_append_right _ (List.mem_append_right _ (List.mem_append_right _ (List.mem_append_right _ (List.mem_append_right _ (List.mem_append_right _ (List.mem_append_right _ (List.mem_append_right _ (List.mem_append_right _ (List.mem_append_right _ (List.mem_append_left _ (List.mem_of_getElem? (i := 12) rfl))))))))))))
theorem wm_453 : (.instanceMethod y_D_canBeAsked : Cond) ∈ w0 := List.mem_append_right _ (List.mem_append_right _ (List.mem_append_right _ (List.mem_append_right _ (List.mem_append_right _ (List.mem_append_right _ (List.mem_append_right _ (List.mem_append_right _ (List.mem_append_right _ (List.mem_append_right _ (List.mem_append_right _ (List.mem_append_left _ (List.mem_of_getElem? (i := 13) rfl))))))))))))
theorem wm_454 : (.selects R_D y_D_canBeAsked y_D_canBeAsked : Cond) ∈ w0 := List.mem_append_right _ (List.mem_append_right _ (List.mem_append_right _ (List.mem_append_right _ (List.mem_append_right _ (List.mem_append_right _ (List.mem_append_right _ (List.mem_append_right _ (List.mem_append_right _ (List.mem_append_right _ (List.mem_append_right _ (List.mem_append_left _ (List.mem_of_getElem? (i := 14) rfl))))))))))))
theorem wm_455 : (.code y_D_canBeAsked prog_2_method_4_code 2 (some .boolean) : Cond) ∈ w0 := List.mem_append_right _ (List.mem_append_right _ (List.mem_append_right _ (List.mem_append_right _ (List.mem_append_right _ (List.mem_append_right _ (List.mem_append_right _ (List.mem_append_right _ (List.mem_append_right _ (List.mem_append_right _ (List.mem_append_right _ (List.mem_append_left _ (List.mem_of_getElem? (i := 15) rfl))))))))))))
theorem wm_456 : (.methodLink R_K 137 y_D_cutBefore : Cond) ∈ w0 := List.mem_append_right _ (List.mem_append_right _ (List.mem_append_right _ (List.mem_append_right _ (List.mem_append_right _ (List.mem_append_right _ (List.mem_append_right _ (List.mem_append_right _ (List.mem_append_right _ (List.mem_append_right _ (List.mem_append_right _ (List.mem_append_left _ (List.mem_of_getElem? (i := 16) rfl))))))))))))
theorem wm_457 : (.instanceMethod y_D_cutBefore : Cond) ∈ w0 := List.mem_append_right _ (List.mem_append_right _ (List.mem_append_right _ (List.mem_append_right _ (List.mem_append_right _ (List.mem_append_right _ (List.mem_append_right _ (List.mem_append_right _ (List.mem_append_right _ (List.mem_append_right _ (List.mem_append_right _ (List.mem_append_left _ (List.mem_of_getElem? (i := 17) rfl))))))))))))
theorem wm_458 : (.selects R_D y_D_cutBefore y_D_cutBefore : Cond) ∈ w0 := List.mem_append_right _ (List.mem_append_right _ (List.mem_append_right _ (List.mem_append_right _ (List.mem_append_right _ (List.mem_append_right _ (List.mem_append_right _ (List.mem_append_right _ (List.mem_append_right _ (List.mem_append_right _ (List.mem_append_right _ (List.mem_append_left _ (List.mem_of_getElem? (i := 18) rfl))))))))))))
theorem wm_459 : (.code y_D_cutBefore prog_2_method_7_code 4 none : Cond) ∈ w0 := List.mem_append_right _ (List.mem_append_right _ (List.mem_append_right _ (List.mem_append_right _ (List.mem_append_right _ (List.mem_append_right _ (List.mem_append_right _ (List.mem_append_right _ (List.mem_append_right _ (List.mem_append_right _ (List.mem_append_right _ (List.mem_append_left _ (List.mem_of_getElem? (i := 19) rfl))))))))))))
theorem wm_460 : (.methodLink R_K 78 y_D_isFull : Cond) ∈ w0 := List.mem_append_right _ (List.mem_append_right _ (List.mem_append_right _ (List.mem_append_right _ (List.mem_append_right _ (List.mem_append_right _ (List.mem_append_right _ (List.mem_append_right _ (List.mem_append_right _ (List.mem_append_right _ (List.mem_append_right _ (List.mem_append_left _ (List.mem_of_getElem? (i := 20) rfl))))))))))))
theorem wm_461 : (.instanceMethod y_D_isFull : Cond) ∈ w0 := List.mem_append_right _ (List.mem_append_right _ (List.mem_append_right _ (List.mem_append_right _ (List.mem_append_right _ (List.mem_append_right _ (List.mem_append_right _ (List.mem_append_right _ (List.mem_append_right _ (List.mem_append_right _ (List.mem_append_right _ (List.mem_append_left _ (List.mem_of_getElem? (i := 21) rfl))))))))))))
theorem wm_462 : (.selects R_D y_D_isFull y_D_isFull : Cond) ∈ w0 := List.mem_append_right _ (List.mem_append_right _ (List.mem_append_right _ (List.mem_append_right _ (List.mem_append_right _ (List.mem_append_right _ (List.mem_append_right _ (List.mem_append_right _ (List.mem_append_right _ (List.mem_append_right _ (List.mem_append_right _ (List.mem_append_left _ (List.mem_of_getElem? (i := 22) rfl))))))))))))
theorem wm_463 : (.code y_D_isFull prog_2_method_2_code 1 (some .boolean) : Cond) ∈ w0 := List.mem_append_right _ (List.mem_append_right _ (List.mem_append_right _ (List.mem_append_right _ (List.mem_append_right _ (List.mem_append_right _ (List.mem_append_right _ (List.mem_append_right _ (List.mem_append_right _ (List.mem_append_right _ (List.mem_append_right _ (List.mem_append_left _ (List.mem_of_getElem? (i := 23) rfl))))))))))))
theorem wm_464 : (.methodLink R_K 85 y_M_makeBase : Cond) ∈ w0 := List.mem_append_right _ (List.mem_append_right _ (List.mem_append_right _ (List.mem_append_right _ (List.mem_append_right _ (List.mem_append_right _ (List.mem_append_right _ (List.mem_append_right _ (List.mem_append_right _ (List.mem_append_right _ (List.mem_append_right _ (List.mem_append_left _ (List.mem_of_getElem? (i := 24) rfl))))))))))))
theorem wm_465 : (.instanceMethod y_M_makeBase : Cond) ∈ w0 := List.mem_append_right _ (List.mem_append_right _ (List.mem_append_right _ (List.mem_append_right _ (List.mem_append_right _ (List.mem_append_right _ (List.mem_append_right _ (List.mem_append_right _ (List.mem_append_right _ (List.mem_append_right _ (List.mem_append_right _ (List.mem_append_left _ (List.mem_of_getElem? (i := 25) rfl))))))))))))
theorem wm_466 : (.selects R_M y_M_makeBase y_M_makeBase : Cond) ∈ w0 := List.mem_append_right _ (List.mem_append_right _ (List.mem_append_right _ (List.mem_append_right _ (List.mem_append_right _ (List.mem_append_right _ (List.mem_append_right _ (List.mem_append_right _ (List.mem_append_right _ (List.mem_append_right _ (List.mem_append_right _ (List.mem_append_left _ (List.mem_of_getElem? (i := 26) rfl))))))))))))
theorem wm_467 : (.code y_M_makeBase prog_3_method_2_code 3 (some (.object "TextKeeper$Text")) : Cond) ∈ w0 := List.mem_append_right _ (List.mem_append_right _ (List.mem_append_right _ (List.mem_append_right _ (List.mem_append_right _ (List.mem_append_right _ (List.mem_append_right _ (List.mem_append_right _ (List.mem_append_right _ (List.mem_append_right _ (List.mem_append_right _ (List.mem_append_left _ (List.mem_of_getElem? (i := 27) rfl))))))))))))
theorem wm_468 : (.methodLink R_K 89 y_W_pieceOf : Cond) ∈ w0 := List.mem_append_right _ (List.mem_append_right _ (List.mem_append_right _ (List.mem_append_right _ (List.mem_append_right _ (List.mem_append_right _ (List.mem_append_right _ (List.mem_append_right _ (List.mem_append_right _ (List.mem_append_right _ (List.mem_append_right _ (List.mem_append_left _ (List.mem_of_getElem? (i := 28) rfl))))))))))))
theorem wm_469 : (.instanceMethod y_W_pieceOf : Cond) ∈ w0 := List.mem_append_right _ (List.mem_append_right _ (List.mem_append_right _ (List.mem_append_right _ (List.mem_append_right _ (List.mem_append_right _ (List.mem_append_right _ (List.mem_append_right _ (List.mem_append_right _ (List.mem_append_right _ (List.mem_append_right _ (List.mem_append_left _ (List.mem_of_getElem? (i := 29) rfl))))))))))))
theorem wm_470 : (.selects R_W y_W_pieceOf y_W_pieceOf : Cond) ∈ w0 := List.mem_append_right _ (List.mem_append_right _ (List.mem_append_right _ (List.mem_append_right _ (List.mem_append_right _ (List.mem_append_right _ (List.mem_append_right _ (List.mem_append_right _ (List.mem_append_right _ (List.mem_append_right _ (List.mem_append_right _ (List.mem_append_left _ (List.mem_of_getElem? (i := 30) rfl))))))))))))
theorem wm_471 : (.code y_W_pieceOf prog_4_method_2_code 3 (some (.array .byte)) : Cond) ∈ w0 := List.mem_append_right _ (List.mem_append_right _ (List.mem_append_right _ (List.mem_append_right _ (List.mem_append_right _ (List.mem_append_right _ (List.mem_append_right _ (List.mem_append_right _ (List.mem_append_right _ (List.mem_append_right _ (List.mem_append_right _ (List.mem_append_left _ (List.mem_of_getElem? (i := 31) rfl))))))))))))
theorem wm_472 : (.methodLink R_K 93 y_K_blocksFor : Cond) ∈ w0 := List.mem_append_right _ (List.mem_append_right _ (List.mem_append_right _ (List.mem_append_right _ (List.mem_append_right _ (List.mem_append_right _ (List.mem_append_right _ (List.mem_append_right _ (List.mem_append_right _ (List.mem_append_right _ (List.mem_append_right _ (List.mem_append_left _ (List.mem_of_getElem? (i := 32) rfl))))))))))))
theorem wm_473 : (.classLink R_K 101 R_V : Cond) ∈ w0 := List.mem_append_right _ (List.mem_append_right _ (List.mem_append_right _ (List.mem_append_right _ (List.mem_append_right _ (List.mem_append_right _ (List.mem_append_right _ (List.mem_append_right _ (List.mem_append_right _ (List.mem_append_right _ (List.mem_append_right _ (List.mem_append_left _ (List.mem_of_getElem? (i := 33) rfl))))))))))))
theorem wm_474 : (.instantiable R_V 3 : Cond) ∈ w0 := List.mem_append_right _ (List.mem_append_right _ (List.mem_append_right _ (List.mem_append_right _ (List.mem_append_right _ (List.mem_append_right _ (List.mem_append_right _ (List.mem_append_right _ (List.mem_append_right _ (List.mem_append_right _ (List.mem_append_right _ (List.mem_append_left _ (List.mem_of_getElem? (i := 34) rfl))))))))))))
theorem wm_475 : (.methodLink R_K 103 y_T_sum : Cond) ∈ w0 := List.mem_append_right _ (List.mem_append_right _ (List.mem_append_right _ (List.mem_append_right _ (List.mem_append_right _ (List.mem_append_right _ (List.mem_append_right _ (List.mem_append_right _ (List.mem_append_right _ (List.mem_append_right _ (List.mem_append_right _ (List.mem_append_left _ (List.mem_of_getElem? (i := 35) rfl))))))))))))
theorem wm_476 : (.instanceMethod y_T_sum : Cond) ∈ w0 := List.mem_append_right _ (List.mem_append_right _ (List.mem_append_right _ (List.mem_append_right _ (List.mem_append_right _ (List.mem_append_right _ (List.mem_append_right _ (List.mem_append_right _ (List.mem_append_right _ (List.mem_append_right _ (List.mem_append_right _ (List.mem_append_left _ (List.mem_of_getElem? (i := 36) rfl))))))))))))
theorem wm_477 : (.selects R_T y_T_sum y_T_sum : Cond) ∈ w0 := List.mem_append_right _ (List.mem_append_right _ (List.mem_append_right _ (List.mem_append_right _ (List.mem_append_right _ (List.mem_append_right _ (List.mem_append_right _ (List.mem_append_right _ (List.mem_append_right _ (List.mem_append_right _ (List.mem_append_right _ (List.mem_append_left _ (List.mem_of_getElem? (i := 37) rfl))))))))))))
theorem wm_478 : (.code y_T_sum prog_7_method_8_code 3 (some .int) : Cond) ∈ w0 := List.mem_append_right _ (List.mem_append_right _ (List.mem_append_right _ (List.mem_append_right _ (List.mem_append_right _ (List.mem_append_right _ (List.mem_append_right _ (List.mem_append_right _ (List.mem_append_right _ (List.mem_append_right _ (List.mem_append_right _ (List.mem_append_left _ (List.mem_of_getElem? (i := 38) rfl))))))))))))
theorem wm_479 : (.code y_V_init prog_6_method_1_code 4 none : Cond) ∈ w0 := List.mem_append_right _ (List.mem_append_right _ (List.mem_append_right _ (List.mem_append_right _ (List.mem_append_right _ (List.mem_append_right _ (List.mem_append_right _ (List.mem_append_right _ (List.mem_append_right _ (List.mem_append_right _ (List.mem_append_right _ (List.mem_append_left _ (List.mem_of_getElem? (i := 39) rfl))))))))))))
theorem wm_480 : (.methodLink R_K 106 y_V_init : Cond) ∈ w0 := List.mem_append_right _ (List.mem_append_right _ (List.mem_append_right _ (List.mem_append_right _ (List.mem_append_right _ (List.mem_append_right _ (List.mem_append_right _ (List.mem_append_right _ (List.mem_append_right _ (List.mem_append_right _ (List.mem_append_right _ (List.mem_append_right _ (List.mem_append_left _ (List.mem_of_getElem? (i := 0) rfl)))))))))))))
theorem wm_481 : (.instanceMethod y_V_init : Cond) ∈ w0 := List.mem_append_right _ (List.mem_append_right _ (List.mem_append_right _ (List.mem_append_right _ (List.mem_append_right _ (List.mem_append_right _ (List.mem_append_right _ (List.mem_append_right _ (List.mem_append_right _ (List.mem_append_right _ (List.mem_append_right _ (List.mem_append_right _ (List.mem_append_left _ (List.mem_of_getElem? (i := 1) rfl)))))))))))))
theorem wm_482 : (.methodLink R_K 109 y_D_add : Cond) ∈ w0 := List.mem_append_right _ (List.mem_append_right _ (List.mem_append_right _ (List.mem_append_right _ (List.mem_append_right _ (List.mem_append_right _ (List.mem_append_right _ (List.mem_append_right _ (List.mem_append_right _ (List.mem_append_right _ (List.mem_append_right _ (List.mem_append_right _ (List.mem_append_left _ (List.mem_of_getElem? (i := 2) rfl)))))))))))))
theorem wm_483 : (.instanceMethod y_D_add : Cond) ∈ w0 := List.mem_append_right _ (List.mem_append_right _ (List.mem_append_right _ (List.mem_append_right _ (List.mem_append_right _ (List.mem_append_right _ (List.mem_append_right _ (List.mem_append_right _ (List.mem_append_right _ (List.mem_append_right _ (List.mem_append_right _ (List.mem_append_right _ (List.mem_append_left _ (List.mem_of_getElem? (i := 3) rfl)))))))))))))
theorem wm_484 : (.selects R_D y_D_add y_D_add : Cond) ∈ w0 := List.mem_append_right _ (List.mem_append_right _ (List.mem_append_right _ (List.mem_append_right _ (List.mem_append_right _ (List.mem_append_right _ (List.mem_append_right _ (List.mem_append_right _ (List.mem_append_right _ (List.mem_append_right _ (List.mem_append_right _ (List.mem_append_right _ (List.mem_append_left _ (List.mem_of_getElem? (i := 4) rfl)))))))))))))
theorem wm_485 : (.code y_D_add prog_2_method_6_code 2 none : Cond) ∈ w0 := List.mem_append_right _ (List.mem_append_right _ (List.mem_append_right _ (List.mem_append_right _ (List.mem_append_right _ (List.mem_append_right _ (List.mem_append_right _ (List.mem_append_right _ (List.mem_append_right _ (List.mem_append_right _ (List.mem_append_right _ (List.mem_append_right _ (List.mem_append_left _ (List.mem_of_getElem? (i := 5) rfl)))))))))))))
theorem wm_486 : (.methodLink R_K 113 y_D_newest : Cond) ∈ w0 := List.mem_append_right _ (List.mem_append_right _ (List.mem_append_right _ (List.mem_append_right _ (List.mem_append_right _ (List.mem_append_right _ (List.mem_append_right _ (List.mem_append_right _ (List.mem_append_right _ (List.mem_append_right _ (List.mem_append_right _ (List.mem_append_right _ (List.mem_append_left _ (List.mem_of_getElem? (i := 6) rfl)))))))))))))
theorem wm_487 : (.instanceMethod y_D_newest : Cond) ∈ w0 := List.mem_append_right _ (List.mem_append_right _ (List.mem_append_right _ (List.mem_append_right _ (List.mem_append_right _ (List.mem_append_right _ (List.mem_append_right _ (List.mem_append_right _ (List.mem_append_right _ (List.mem_append_right _ (List.mem_append_right _ (List.mem_append_right _ (List.mem_append_left _ (List.mem_of_getElem? (i := 7) rfl)))))))))))))
theorem wm_488 : (.selects R_D y_D_newest y_D_newest : Cond) ∈ w0 := List.mem_append_right _ (List.mem_append_right _ (List.mem_append_right _ (List.mem_append_right _ (List.mem_append_right _ (List.mem_append_right _ (List.mem_append_right _ (List.mem_append_right _ (List.mem_append_right _ (List.mem_append_right _ (List.mem_append_right _ (List.mem_append_right _ (List.mem_append_left _ (List.mem_of_getElem? (i := 8) rfl)))))))))))))
theorem wm_489 : (.code y_D_newest prog_2_method_3_code 1 (some .int) : Cond) ∈ w0 := List.mem_append_right _ (List.mem_append_right _ (List.mem_append_right _ (List.mem_append_right _ (List.mem_append_right _ (List.mem_append_right _ (List.mem_append_right _ (List.mem_append_right _ (List.mem_append_right _ (List.mem_append_right _ (List.mem_append_right _ (List.mem_append_right _ (List.mem_append_left _ (List.mem_of_getElem? (i := 9) rfl)))))))))))))
theorem wm_490 : (.constant R_I 265 (1431655765 : Int32) : Cond) ∈ w0 := List.mem_append_right _ (List.mem_append_right _ (List.mem_append_right _ (List.mem_append_right _ (List.mem_append_right _ (List.mem_append_right _ (List.mem_append_right _ (List.mem_append_right _ (List.mem_append_right _ (List.mem_append_right _ (List.mem_append_right _ (List.mem_append_right _ (List.mem_append_left _ (List.mem_of_getElem? (i := 10) rfl)))))))))))))
theorem wm_491 : (.constant R_I 266 (858993459 : Int32) : Cond) ∈ w0 := List.mem_append_right _ (List.mem_append_right _ (List.mem_append_right _ (List.mem_append_right _ (List.mem_append_right _ (List.mem_append_right _ (List.mem_append_right _ (List.mem_append_right _ (List.mem_append_right _ (List.mem_append_right _ (List.mem_append_right _ (List.mem_append_right _ (List.mem_append_left _ (List.mem_of_getElem? (i := 11) rfl)))))))))))))
theorem wm_492 : (.constant R_I 267 (252645135 : Int32) : Cond) ∈ w0 := List.mem_append_right _ (List.mem_append_right _ (List.mem_append_right _ (List.mem_append_right _ (List.mem_append_right _ (List.mem_append_right _ (List.mem_append_right _ (List.mem_append_right _ (List.mem_append_right _ (List.mem_append_right _ (List.mem_append_right _ (List.mem_append_right _ (List.mem_append_left _ (List.mem_of_getElem? (i := 12) rfl)))))))))))))
theorem wm_493 : (.methodLink R_K 119 y_M_makeAgain : Cond) ∈ w0 := List.mem_append_right _ (List.mem_append_right _ (List.mem_append_right _ (List.mem_append_right _ (List.mem_append_right _ (List.mem_append_right _ (List.mem_append_right _ (List.mem_append_right _ (List.mem_append_right _ (List.mem_append_right _ (List.mem_append_right _ (List.mem_append_right _ (List.mem_append_left _ (List.mem_of_getElem? (i := 13) rfl)))))))))))))
theorem wm_494 : (.methodLink R_K 122 y_T_become : Cond) ∈ w0 := List.mem_append_right _ (List.mem_append_right _ (List.mem_append_right _ (List.mem_append_right _ (List.mem_append_right _ (List.mem_append_right _ (List.mem_append_right _ (List.mem_append_right _ (List.mem_append_right _ (List.mem_append_right _ (List.mem_append_right _ (List.mem_append_right _ (List.mem_append_left _ (List.mem_of_getElem? (i := 14) rfl)))))))))))))
theorem wm_495 : (.instanceMethod y_T_become : Cond) ∈ w0 := List.mem_append_right _ (List.mem_append_right _ (List.mem_append_right _ (List.mem_append_right _ (List.mem_append_right _ (List.mem_append_right _ (List.mem_append_right _ (List.mem_append_right _ (List.mem_append_right _ (List.mem_append_right _ (List.mem_append_right _ (List.mem_append_right _ (List.mem_append_left _ (List.mem_of_getElem? (i := 15) rfl)))))))))))))
theorem wm_496 : (.selects R_T y_T_become y_T_become : Cond) ∈ w0 := List.mem_append_right _ (List.mem_append_right _ (List.mem_append_right _ (List.mem_append_right _ (List.mem_append_right _ (List.mem_append_right _ (List.mem_append_right _ (List.mem_append_right _ (List.mem_append_right _ (List.mem_append_right _ (List.mem_append_right _ (List.mem_append_right _ (List.mem_append_left _ (List.mem_of_getElem? (i := 16) rfl)))))))))))))
theorem wm_497 : (.code y_T_become prog_7_method_7_code 2 none : Cond) ∈ w0 := List.mem_append_right _ (List.mem_append_right _ (List.mem_append_right _ (List.mem_append_right _ (List.mem_append_right _ (List.mem_append_right _ (List.mem_append_right _ (List.mem_append_right _ (List.mem_append_right _ (List.mem_append_right _ (List.mem_append_right _ (List.mem_append_right _ (List.mem_append_left _ (List.mem_of_getElem? (i := 17) rfl)))))))))))))
theorem wm_498 : (.methodLink R_K 126 y_I_bitCount : Cond) ∈ w0 := List.mem_append_right _ (List.mem_append_right _ (List.mem_append_right _ (List.mem_append_right _ (List.mem_append_right _ (List.mem_append_right _ (List.mem_append_right _ (List.mem_append_right _ (List.mem_append_right _ (List.mem_append_right _ (List.mem_append_right _ (List.mem_append_right _ (List.mem_append_left _ (List.mem_of_getElem? (i := 18) rfl)))))))))))))
theorem wm_499 : (.static y_I_bitCount : Cond) ∈ w0 := List.mem_append_right _ (List.mem_append_right _ (List.mem_append_right _ (List.mem_append_right _ (List.mem_append_right _ (List.mem_append_right _ (List.mem_append_right _ (List.mem_append_right _ (List.mem_append_right _ (List.mem_append_right _ (List.mem_append_right _ (List.mem_append_right _ (List.mem_append_left _ (List.mem_of_getElem? (i := 19) rfl)))))))))))))
theorem wm_500 : (.initialized R_I : Cond) ∈ w0 := List.mem_append_right _ (List.mem_append_right _ (List.mem_append_right _ (List.mem_append_right _ (List.mem_append_right _ (List.mem_append_right _ (List.mem_append_right _ (List.mem_append_right _ (List.mem_append_right _ (List.mem_append_right _ (List.mem_append_right _ (List.mem_append_right _ (List.mem_append_left _ (List.mem_of_getElem? (i := 20) rfl)))))))))))))
theorem wm_501 : (.code y_I_bitCount prog_14_method_49_code 1 (some .int) : Cond) ∈ w0 := List.mem_append_right _ (List.mem_append_right _ (List.mem_append_right _ (List.mem_append_right _ (List.mem_append_right _ (List.mem_append_right _ (List.mem_append_right _ (List.mem_append_right _ (List.mem_append_right _ (List.mem_append_right _ (List.mem_append_right _ (List.mem_append_right _ (List.mem_append_left _ (List.mem_of_getElem? (i := 21) rfl)))))))))))))
theorem wm_502 : (.methodLink R_O 1 objectInit : Cond) ∈ w0 := List.mem_append_right _ (List.mem_append_right _ (List.mem_append_right _ (List.mem_append_right _ (List.mem_append_right _ (List.mem_append_right _ (List.mem_append_right _ (List.mem_append_right _ (List.mem_append_right _ (List.mem_append_right _ (List.mem_append_right _ (List.mem_append_right _ (List.mem_append_left _ (List.mem_of_getElem? (i := 22) rfl)))))))))))))
theorem wm_503 : (.arrayClass .boolean : Cond) ∈ w0 := List.mem_append_right _ (List.mem_append_right _ (List.mem_append_right _ (List.mem_append_right _ (List.mem_append_right _ (List.mem_append_right _ (List.mem_append_right _ (List.mem_append_right _ (List.mem_append_right _ (List.mem_append_right _ (List.mem_append_right _ (List.mem_append_right _ (List.mem_append_left _ (List.mem_of_getElem? (i := 23) rfl)))))))))))))
theorem wm_504 : (.arrayClass .int : Cond) ∈ w0 := List.mem_append_right _ (List.mem_append_right _ (List.mem_append_right _ (List.mem_append_right _ (List.mem_append_right _ (List.mem_append_right _ (List.mem_append_right _ (List.mem_append_right _ (List.mem_append_right _ (List.mem_append_right _ (List.mem_append_right _ (List.mem_append_right _ (List.mem_append_left _ (List.mem_of_getElem? (i := 24) rfl)))))))))))))
theorem wm_505 : (.arrayClass .short : Cond) ∈ w0 := List.mem_append_right _ (List.mem_append_right _ (List.mem_append_right _ (List.mem_append_right _ (List.mem_append_right _ (List.mem_append_right _ (List.mem_append_right _ (List.mem_append_right _ (List.mem_append_right _ (List.mem_append_right _ (List.mem_append_right _ (List.mem_append_right _ (List.mem_append_left _ (List.mem_of_getElem? (i := 25) rfl)))))))))))))
theorem wm_506 : (.fieldLink R_O 56 "TextKeeperModel" "other" "[B" : Cond) ∈ w0 := List.mem_append_right _ (List.mem_append_right _ (List.mem_append_right _ (List.mem_append_right _ (List.mem_append_right _ (List.mem_append_right _ (List.mem_append_right _ (List.mem_append_right _ (List.mem_append_right _ (List.mem_append_right _ (List.mem_append_right _ (List.mem_append_right _ (List.mem_append_left _ (List.mem_of_getElem? (i := 26) rfl)))))))))))))
theorem wm_507 : (.fieldLink R_O 165 "TextKeeperModel" "otherSize" "I" : Cond) ∈ w0 := List.mem_append_right _ (List.mem_append_right _ (List.mem_append_right _ (List.mem_append_right _ (List.mem_append_right _ (List.mem_append_right _ (List.mem_append_right _ (List.mem_append_right _ (List.mem_append_right _ (List.mem_append_right _ (List.mem_append_right _ (List.mem_append_right _ (List.mem_append_left _ (List.mem_of_getElem? (i := 27) rfl)))))))))))))
theorem wm_508 : (.methodLink R_K 165 y_K_isSound : Cond) ∈ w0 := List.mem_append_right _ (List.mem_append_right _ (List.mem_append_right _ (List.mem_append_right _ (List.mem_append_right _ (List.mem_append_right _ (List.mem_append_right _ (List.mem_append_right _ (List.mem_append_right _ (List.mem_append_right _ (List.mem_append_right _ (List.mem_append_right _ (List.mem_append_left _ (List.mem_of_getElem? (i := 28) rfl)))))))))))))
theorem wm_509 : (.instanceMethod y_K_isSound : Cond) ∈ w0 := List.mem_append_right _ (List.mem_append_right _ (List.mem_append_right _ (List.mem_append_right _ (List.mem_append_right _ (List.mem_append_right _ (List.mem_append_right _ (List.mem_append_right _ (List.mem_append_right _ (List.mem_append_right _ (List.mem_append_right _ (List.mem_append_right _ (List.mem_append_left _ (List.mem_of_getElem? (i := 29) rfl)))))))))))))
theorem wm_510 : (.selects R_K y_K_isSound y_K_isSound : Cond) ∈ w0 := List.mem_append_right _ (List.mem_append_right _ (List.mem_append_right _ (List.mem_append_right _ (List.mem_append_right _ (List.mem_append_right _ (List.mem_append_right _ (List.mem_append_right _ (List.mem_append_right _ (List.mem_append_right _ (List.mem_append_right _ (List.mem_append_right _ (List.mem_append_left _ (List.mem_of_getElem? (i := 30) rfl)))))))))))))
theorem wm_511 : (.code y_K_isSound prog_1_method_25_code 5 (some .boolean) : Cond) ∈ w0 := List.mem_append_right _ (List.mem_append_right _ (List.mem_append_right _ (List.mem_append_right _ (List.mem_append_right _ (List.mem_append_right _ (List.mem_append_right _ (List.mem_append_right _ (List.mem_append_right _ (List.mem_append_right _ (List.mem_append_right _ (List.mem_append_right _ (List.mem_append_left _ (List.mem_of_getElem? (i := 31) rfl)))))))))))))
theorem wm_512 : (.methodLink R_K 169 y_T_runWith : Cond) ∈ w0 := List.mem_append_right _ (List.mem_append_right _ (List.mem_append_right _ (List.mem_append_right _ (List.mem_append_right _ (List.mem_append_right _ (List.mem_append_right _ (List.mem_append_right _ (List.mem_append_right _ (List.mem_append_right _ (List.mem_append_right _ (List.mem_append_right _ (List.mem_append_left _ (List.mem_of_getElem? (i := 32) rfl)))))))))))))
theorem wm_513 : (.methodLink R_K 173 y_T_runBackWith : Cond) ∈ w0 := List.mem_append_right _ (List.mem_append_right _ (List.mem_append_right _ (List.mem_append_right _ (List.mem_append_right _ (List.mem_append_right _ (List.mem_append_right _ (List.mem_append_right _ (List.mem_append_right _ (List.mem_append_right _ (List.mem_append_right _ (List.mem_append_right _ (List.mem_append_left _ (List.mem_of_getElem? (i := 33) rfl)))))))))))))
theorem wm_514 : (.instanceMethod y_T_runBackWith : Cond) ∈ w0 := List.mem_append_right _ (List.mem_append_right _ (List.mem_append_right _ (List.mem_append_right _ (List.mem_append_right _ (List.mem_append_right _ (List.mem_append_right _ (List.mem_append_right _ (List.mem_append_right _ (List.mem_append_right _ (List.mem_append_right _ (List.mem_append_right _ (List.mem_append_left _ (List.mem_of_getElem? (i := 34) rfl)))))))))))))
theorem wm_515 : (.selects R_T y_T_runBackWith y_T_runBackWith : Cond) ∈ w0 := List.mem_append_right _ (List.mem_append_right _ (List.mem_append_right _ (List.mem_append_right _ (List.mem_append_right _ (List.mem_append_right _ (List.mem_append_right _ (List.mem_append_right _ (List.mem_append_right _ (List.mem_append_right _ (List.mem_append_right _ (List.mem_append_right _ (List.mem_append_left _ (List.mem_of_getElem? (i := 35) rfl)))))))))))))
theorem wm_516 : (.code y_T_runBackWith prog_7_method_10_code 5 (some .int) : Cond) ∈ w0 := List.mem_append_right _ (List.mem_append_right _ (List.mem_append_right _ (List.mem_append_right _ (List.mem_append_right _ (List.mem_append_right _ (List.mem_append_right _ (List.mem_append_right _ (List.mem_append_right _ (List.mem_append_right _ (List.mem_append_right _ (List.mem_append_right _ (List.mem_append_left _ (List.mem_of_getElem? (i := 36) rfl)))))))))))))
theorem wm_517 : (.methodLink R_L 7 y_K_feed : Cond) ∈ w0 := List.mem_append_right _ (List.mem_append_right _ (List.mem_append_right _ (List.mem_append_right _ (List.mem_append_right _ (List.mem_append_right _ (List.mem_append_right _ (List.mem_append_right _ (List.mem_append_right _ (List.mem_append_right _ (List.mem_append_right _ (List.mem_append_right _ (List.mem_append_left _ (List.mem_of_getElem? (i := 37) rfl)))))))))))))
theorem wm_518 : (.instanceMethod y_K_feed : Cond) ∈ w0 := List.mem_append_right _ (List.mem_append_right _ (List.mem_append_right _ (List.mem_append_right _ (List.mem_append_right _ (List.mem_append_right _ (List.mem_append_right _ (List.mem_append_right _ (List.mem_append_right _ (List.mem_append_right _ (List.mem_append_right _ (List.mem_append_right _ (List.mem_append_left _ (List.mem_of_getElem? (i := 38) rfl)))))))))))))
theorem wm_519 : (.selects R_K y_K_feed y_K_feed : Cond) ∈ w0 := List.mem_append_right _ (List.mem_append_right _ (List.mem_append_right _ (List.mem_append_right _ (List.mem_append_right _ (List.mem_append_right _ (List.mem_append_right _ (List.mem_append_right _ (List.mem_append_right _ (List.mem_append_right _ (List.mem_append_right _ (List.mem_append_right _ (List.mem_append_left _ (List.mem_of_getElem? (i := 39) rfl)))))))))))))
theorem wm_520 : (.code y_K_feed prog_1_method_2_code 6 (some .boolean) : Cond) ∈ w0 := List.mem_append_right _ (List.mem_append_right _ (List.mem_append_right _ (List.mem_append_right _ (List.mem_append_right _ (List.mem_append_right _ (List.mem_append_right _ (List.mem_append_right _ (List.mem_append_right _ (List.mem_append_right _ (List.mem_append_right _ (List.mem_append_right _ (List.mem_append_right _ (List.mem_append_left _ (List.mem_of_getElem? (i := 0) rfl))))))))))))))
theorem wm_521 : (.methodLink R_L 15 y_K_end : Cond) ∈ w0 := List.mem_append_right _ (List.mem_append_right _ (List.mem_append_right _ (List.mem_append_right _ (List.mem_append_right _ (List.mem_append_right _ (List.mem_append_right _ (List.mem_append_right _ (List.mem_append_right _ (List.mem_append_right _ (List.mem_append_right _ (List.mem_append_right _ (List.mem_append_right _ (List.mem_append_left _ (List.mem_of_getElem? (i := 1) rfl))))))))))))))
theorem wm_522 : (.instanceMethod y_K_end : Cond) ∈ w0 := List.mem_append_right _ (List.mem_append_right _ (List.mem_append_right _ (List.mem_append_right _ (List.mem_append_right _ (List.mem_append_right _ (List.mem_append_right _ (List.mem_append_right _ (List.mem_append_right _ (List.mem_append_right _ (List.mem_append_right _ (List.mem_append_right _ (List.mem_append_right _ (List.mem_append_left _ (List.mem_of_getElem? (i := 2) rfl))))))))))))))
theorem wm_523 : (.selects R_K y_K_end y_K_end : Cond) ∈ w0 := List.mem_append_right _ (List.mem_append_right _ (List.mem_append_right _ (List.mem_append_right _ (List.mem_append_right _ (List.mem_append_right _ (List.mem_append_right _ (List.mem_append_right _ (List.mem_append_right _ (List.mem_append_right _ (List.mem_append_right _ (List.mem_append_right _ (List.mem_append_right _ (List.mem_append_left _ (List.mem_of_getElem? (i := 3) rfl))))))))))))))
theorem wm_524 : (.code y_K_end prog_1_method_3_code 2 (some .boolean) : Cond) ∈ w0 := List.mem_append_right _ (List.mem_append_right _ (List.mem_append_right _ (List.mem_append_right _ (List.mem_append_right _ (List.mem_append_right _ (List.mem_append_right _ (List.mem_append_right _ (List.mem_append_right _ (List.mem_append_right _ (List.mem_append_right _ (List.mem_append_right _ (List.mem_append_right _ (List.mem_append_left _ (List.mem_of_getElem? (i := 4) rfl))))))))))))))
theorem wm_525 : (.methodLink R_L 19 y_K_make : Cond) ∈ w0 := List.mem_append_right _ (List.mem_append_right _ (List.mem_append_right _ (List.mem_append_right _ (List.mem_append_right _ (List.mem_append_right _ (List.mem_append_right _ (List.mem_append_right _ (List.mem_append_right _ (List.mem_append_right _ (List.mem_append_right _ (List.mem_append_right _ (List.mem_append_right _ (List.mem_append_left _ (List.mem_of_getElem? (i := 5) rfl))))))))))))))
theorem wm_526 : (.instanceMethod y_K_make : Cond) ∈ w0 := List.mem_append_right _ (List.mem_append_right _ (List.mem_append_right _ (List.mem_append_right _ (List.mem_append_right _ (List.mem_append_right _ (List.mem_append_right _ (List.mem_append_right _ (List.mem_append_right _ (List.mem_append_right _ (List.mem_append_right _ (List.mem_append_right _ (List.mem_append_right _ (List.mem_append_left _ (List.mem_of_getElem? (i := 6) rfl))))))))))))))
theorem wm_527 : (.selects R_K y_K_make y_K_make : Cond) ∈ w0 := List.mem_append_right _ (List.mem_append_right _ (List.mem_append_right _ (List.mem_append_right _ (List.mem_append_right _ (List.mem_append_right _ (List.mem_append_right _ (List.mem_append_right _ (List.mem_append_right _ (List.mem_append_right _ (List.mem_append_right _ (List.mem_append_right _ (List.mem_append_right _ (List.mem_append_left _ (List.mem_of_getElem? (i := 7) rfl))))))))))))))
theorem wm_528 : (.code y_K_make prog_1_method_4_code 2 (some .int) : Cond) ∈ w0 := List.mem_append_right _ (List.mem_append_right _ (List.mem_append_right _ (List.mem_append_right _ (List.mem_append_right _ (List.mem_append_right _ (List.mem_append_right _ (List.mem_append_right _ (List.mem_append_right _ (List.mem_append_right _ (List.mem_append_right _ (List.mem_append_right _ (List.mem_append_right _ (List.mem_append_left _ (List.mem_of_getElem? (i := 8) rfl))))))))))))))
theorem wm_529 : (.methodLink R_L 23 y_K_commit : Cond) ∈ w0 := List.mem_append_right _ (List.mem_append_right _ (List.mem_append_right _ (List.mem_append_right _ (List.mem_append_right _ (List.mem_append_right _ (List.mem_append_right _ (List.mem_append_right _ (List.mem_append_right _ (List.mem_append_right _ (List.mem_append_right _ (List.mem_append_right _ (List.mem_append_right _ (List.mem_append_left _ (List.mem_of_getElem? (i := 9) rfl))))))))))))))
theorem wm_530 : (.instanceMethod y_K_commit : Cond) ∈ w0 := List.mem_append_right _ (List.mem_append_right _ (List.mem_append_right _ (List.mem_append_right _ (List.mem_append_right _ (List.mem_append_right _ (List.mem_append_right _ (List.mem_append_right _ (List.mem_append_right _ (List.mem_append_right _ (List.mem_append_right _ (List.mem_append_right _ (List.mem_append_right _ (List.mem_append_left _ (List.mem_of_getElem? (i := 10) rfl))))))))))))))
theorem wm_531 : (.selects R_K y_K_commit y_K_commit : Cond) ∈ w0 := List.mem_append_right _ (List.mem_append_right _ (List.mem_append_right _ (List.mem_append_right _ (List.mem_append_right _ (List.mem_append_right _ (List.mem_append_right _ (List.mem_append_right _ (List.mem_append_right _ (List.mem_append_right _ (List.mem_append_right _ (List.mem_append_right _ (List.mem_append_right _ (List.mem_append_left _ (List.mem_of_getElem? (i := 11) rfl))))))))))))))
theorem wm_532 : (.code y_K_commit prog_1_method_5_code 7 (some .int) : Cond) ∈ w0 := List.mem_append_right _ (List.mem_append_right _ (List.mem_append_right _ (List.mem_append_right _ (List.mem_append_right _ (List.mem_append_right _ (List.mem_append_right _ (List.mem_append_right _ (List.mem_append_right _ (List.mem_append_right _ (List.mem_append_right _ (List.mem_append_right _ (List.mem_append_right _ (List.mem_append_left _ (List.mem_of_getElem? (i := 12) rfl))))))))))))))
theorem wm_533 : (.methodLink R_L 27 y_K_fetch : Cond) ∈ w0 := List.mem_append_right _ (List.mem_append_right _ (List.mem_append_right _ (List.mem_append_right _ (List.mem_append_right _ (List.mem_append_right _ (List.mem_append_right _ (List.mem_append_right _ (List.mem_append_right _ (List.mem_append_right _ (List.mem_append_right _ (List.mem_append_right _ (List.mem_append_right _ (List.mem_append_left _ (List.mem_of_getElem? (i := 13) rfl))))))))))))))
theorem wm_534 : (.instanceMethod y_K_fetch : Cond) ∈ w0 := List.mem_append_right _ (List.mem_append_right _ (List.mem_append_right _ (List.mem_append_right _ (List.mem_append_right _ (List.mem_append_right _ (List.mem_append_right _ (List.mem_append_right _ (List.mem_append_right _ (List.mem_append_right _ (List.mem_append_right _ (List.mem_append_right _ (List.mem_append_right _ (List.mem_append_left _ (List.mem_of_getElem? (i := 14) rfl))))))))))))))
theorem wm_535 : (.selects R_K y_K_fetch y_K_fetch : Cond) ∈ w0 := List.mem_append_right _ (List.mem_append_right _ (List.mem_append_right _ (List.mem_append_right _ (List.mem_append_right _ (List.mem_append_right _ (List.mem_append_right _ (List.mem_append_right _ (List.mem_append_right _ (List.mem_append_right _ (List.mem_append_right _ (List.mem_append_right _ (List.mem_append_right _ (List.mem_append_left _ (List.mem_of_getElem? (i := 15) rfl))))))))))))))
theorem wm_536 : (.code y_K_fetch prog_1_method_6_code 5 (some .int) : Cond) ∈ w0 := List.mem_append_right _ (List.mem_append_right _ (List.mem_append_right _ (List.mem_append_right _ (List.mem_append_right _ (List.mem_append_right _ (List.mem_append_right _ (List.mem_append_right _ (List.mem_append_right _ (List.mem_append_right _ (List.mem_append_right _ (List.mem_append_right _ (List.mem_append_right _ (List.mem_append_left _ (List.mem_of_getElem? (i := 16) rfl))))))))))))))
theorem wm_537 : (.methodLink R_L 30 y_K_out : Cond) ∈ w0 := List.mem_append_right _ (List.mem_append_right _ (List.mem_append_right _ (List.mem_append_right _ (List.mem_append_right _ (List.mem_append_right _ (List.mem_append_right _ (List.mem_append_right _ (List.mem_append_right _ (List.mem_append_right _ (List.mem_append_right _ (List.mem_append_right _ (List.mem_append_right _ (List.mem_append_left _ (List.mem_of_getElem? (i := 17) rfl))))))))))))))
theorem wm_538 : (.instanceMethod y_K_out : Cond) ∈ w0 := List.mem_append_right _ (List.mem_append_right _ (List.mem_append_right _ (List.mem_append_right _ (List.mem_append_right _ (List.mem_append_right _ (List.mem_append_right _ (List.mem_append_right _ (List.mem_append_right _ (List.mem_append_right _ (List.mem_append_right _ (List.mem_append_right _ (List.mem_append_right _ (List.mem_append_left _ (List.mem_of_getElem? (i := 18) rfl))))))))))))))
theorem wm_539 : (.selects R_K y_K_out y_K_out : Cond) ∈ w0 := List.mem_append_right _ (List.mem_append_right _ (List.mem_append_right _ (List.mem_append_right _ (List.mem_append_right _ (List.mem_append_right _ (List.mem_append_right _ (List.mem_append_right _ (List.mem_append_right _ (List.mem_append_right _ (List.mem_append_right _ (List.mem_append_right _ (List.mem_append_right _ (List.mem_append_left _ (List.mem_of_getElem? (i := 19) rfl))))))))))))))
theorem wm_540 : (.code y_K_out prog_1_method_7_code 2 (some .int) : Cond) ∈ w0 := List.mem_append_right _ (List.mem_append_right _ (List.mem_append_right _ (List.mem_append_right _ (List.mem_append_right _ (List.mem_append_right _ (List.mem_append_right _ (List.mem_append_right _ (List.mem_append_right _ (List.mem_append_right _ (List.mem_append_right _ (List.mem_append_right _ (List.mem_append_right _ (List.mem_append_left _ (List.mem_of_getElem? (i := 20) rfl))))))))))))))
theorem wm_541 : (.methodLink R_L 34 y_K_steps : Cond) ∈ w0 := List.mem_append_right _ (List.mem_append_right _ (List.mem_append_right _ (List.mem_append_right _ (List.mem_append_right _ (List.mem_append_right _ (List.mem_append_right _ (List.mem_append_right _ (List.mem_append_right _ (List.mem_append_right _ (List.mem_append_right _ (List.mem_append_right _ (List.mem_append_right _ (List.mem_append_left _ (List.mem_of_getElem? (i := 21) rfl))))))))))))))
theorem wm_542 : (.instanceMethod y_K_steps : Cond) ∈ w0 := List.mem_append_right _ (List.mem_append_right _ (List.mem_append_right _ (List.mem_append_right _ (List.mem_append_right _ (List.mem_append_right _ (List.mem_append_right _ (List.mem_append_right _ (List.mem_append_right _ (List.mem_append_right _ (List.mem_append_right _ (List.mem_append_right _ (List.mem_append_right _ (List.mem_append_left _ (List.mem_of_getElem? (i := 22) rfl))))))))))))))
theorem wm_543 : (.selects R_K y_K_steps y_K_steps : Cond) ∈ w0 := List.mem_append_right _ (List.mem_append_right _ (List.mem_append_right _ (List.mem_append_right _ (List.mem_append_right _ (List.mem_append_right _ (List.mem_append_right _ (List.mem_append_right _ (List.mem_append_right _ (List.mem_append_right _ (List.mem_append_right _ (List.mem_append_right _ (List.mem_append_right _ (List.mem_append_left _ (List.mem_of_getElem? (i := 23) rfl))))))))))))))
theorem wm_544 : (.code y_K_steps prog_1_method_8_code 1 (some .int) : Cond) ∈ w0 := List.mem_append_right _ (List.mem_append_right _ (List.mem_append_right _ (List.mem_append_right _ (List.mem_append_right _ (List.mem_append_right _ (List.mem_append_right _ (List.mem_append_right _ (List.mem_append_right _ (List.mem_append_right _ (List.mem_append_right _ (List.mem_append_right _ (List.mem_append_right _ (List.mem_append_left _ (List.mem_of_getElem? (i := 24) rfl))))))))))))))
theorem wm_545 : (.methodLink R_L 37 y_K_trim : Cond) ∈ w0 := List.mem_append_right _ (List.mem_append_right _ (List.mem_append_right _ (List.mem_append_right _ (List.mem_append_right _ (List.mem_append_right _ (List.mem_append_right _ (List.mem_append_right _ (List.mem_append_right _ (List.mem_append_right _ (List.mem_append_right _ (List.mem_append_right _ (List.mem_append_right _ (List.mem_append_left _ (List.mem_of_getElem? (i := 25) rfl))))))))))))))
theorem wm_546 : (.instanceMethod y_K_trim : Cond) ∈ w0 := List.mem_append_right _ (List.mem_append_right _ (List.mem_append_right _ (List.mem_append_right _ (List.mem_append_right _ (List.mem_append_right _ (List.mem_append_right _ (List.mem_append_right _ (List.mem_append_right _ (List.mem_append_right _ (List.mem_append_right _ (List.mem_append_right _ (List.mem_append_right _ (List.mem_append_left _ (List.mem_of_getElem? (i := 26) rfl))))))))))))))
theorem wm_547 : (.selects R_K y_K_trim y_K_trim : Cond) ∈ w0 := List.mem_append_right _ (List.mem_append_right _ (List.mem_append_right _ (List.mem_append_right _ (List.mem_append_right _ (List.mem_append_right _ (List.mem_append_right _ (List.mem_append_right _ (List.mem_append_right _ (List.mem_append_right _ (List.mem_append_right _ (List.mem_append_right _ (List.mem_append_right _ (List.mem_append_left _ (List.mem_of_getElem? (i := 27) rfl))))))))))))))
theorem wm_548 : (.code y_K_trim prog_1_method_9_code 4 (some .boolean) : Cond) ∈ w0 := List.mem_append_right _ (List.mem_append_right _ (List.mem_append_right _ (List.mem_append_right _ (List.mem_append_right _ (List.mem_append_right _ (List.mem_append_right _ (List.mem_append_right _ (List.mem_append_right _ (List.mem_append_right _ (List.mem_append_right _ (List.mem_append_right _ (List.mem_append_right _ (List.mem_append_left _ (List.mem_of_getElem? (i := 28) rfl))))))))))))))
theorem wm_549 : (.methodLink R_L 41 y_K_dropDocument : Cond) ∈ w0 := List.mem_append_right _ (List.mem_append_right _ (List.mem_append_right _ (List.mem_append_right _ (List.mem_append_right _ (List.mem_append_right _ (List.mem_append_right _ (List.mem_append_right _ (List.mem_append_right _ (List.mem_append_right _ (List.mem_append_right _ (List.mem_append_right _ (List.mem_append_right _ (List.mem_append_left _ (List.mem_of_getElem? (i := 29) rfl))))))))))))))
theorem wm_550 : (.instanceMethod y_K_dropDocument : Cond) ∈ w0 := List.mem_append_right _ (List.mem_append_right _ (List.mem_append_right _ (List.mem_append_right _ (List.mem_append_right _ (List.mem_append_right _ (List.mem_append_right _ (List.mem_append_right _ (List.mem_append_right _ (List.mem_append_right _ (List.mem_append_right _ (List.mem_append_right _ (List.mem_append_right _ (List.mem_append_left _ (List.mem_of_getElem? (i := 30) rfl))))))))))))))
theorem wm_551 : (.selects R_K y_K_dropDocument y_K_dropDocument : Cond) ∈ w0 := List.mem_append_right _ (List.mem_append_right _ (List.mem_append_right _ (List.mem_append_right _ (List.mem_append_right _ (List.mem_append_right _ (List.mem_append_right _ (List.mem_append_right _ (List.mem_append_right _ (List.mem_append_right _ (List.mem_append_right _ (List.mem_append_right _ (List.mem_append_right _ (List.mem_append_left _ (List.mem_of_getElem? (i := 31) rfl))))))))))))))
theorem wm_552 : (.code y_K_dropDocument prog_1_method_10_code 2 (some .boolean) : Cond) ∈ w0 := List.mem_append_right _ (List.mem_append_right _ (List.mem_append_right _ (List.mem_append_right _ (List.mem_append_right _ (List.mem_append_right _ (List.mem_append_right _ (List.mem_append_right _ (List.mem_append_right _ (List.mem_append_right _ (List.mem_append_right _ (List.mem_append_right _ (List.mem_append_right _ (List.mem_append_left _ (List.mem_of_getElem? (i := 32) rfl))))))))))))))
theorem wm_553 : (.methodLink R_L 44 y_K_about : Cond) ∈ w0 := List.mem_append_right _ (List.mem_append_right _ (List.mem_append_right _ (List.mem_append_right _ (List.mem_append_right _ (List.mem_append_right _ (List.mem_append_right _ (List.mem_append_right _ (List.mem_append_right _ (List.mem_append_right _ (List.mem_append_right _ (List.mem_append_right _ (List.mem_append_right _ (List.mem_append_left _ (List.mem_of_getElem? (i := 33) rfl))))))))))))))
theorem wm_554 : (.instanceMethod y_K_about : Cond) ∈ w0 := List.mem_append_right _ (List.mem_append_right _ (List.mem_append_right _ (List.mem_append_right _ (List.mem_append_right _ (List.mem_append_right _ (List.mem_append_right _ (List.mem_append_right _ (List.mem_append_right _ (List.mem_append_right _ (List.mem_append_right _ (List.mem_append_right _ (List.mem_append_right _ (List.mem_append_left _ (List.mem_of_getElem? (i := 34) rfl))))))))))))))
theorem wm_555 : (.selects R_K y_K_about y_K_about : Cond) ∈ w0 := List.mem_append_right _ (List.mem_append_right _ (List.mem_append_right _ (List.mem_append_right _ (List.mem_append_right _ (List.mem_append_right _ (List.mem_append_right _ (List.mem_append_right _ (List.mem_append_right _ (List.mem_append_right _ (List.mem_append_right _ (List.mem_append_right _ (List.mem_append_right _ (List.mem_append_left _ (List.mem_of_getElem? (i := 35) rfl))))))))))))))
theorem wm_556 : (.code y_K_about prog_1_method_11_code 4 (some .int) : Cond) ∈ w0 := List.mem_append_right _ (List.mem_append_right _ (List.mem_append_right _ (List.mem_append_right _ (List.mem_append_right _ (List.mem_append_right _ (List.mem_append_right _ (List.mem_append_right _ (List.mem_append_right _ (List.mem_append_right _ (List.mem_append_right _ (List.mem_append_right _ (List.mem_append_right _ (List.mem_append_left _ (List.mem_of_getElem? (i := 36) rfl))))))))))))))
theorem wm_557 : (.methodLink R_L 51 y_K_revision : Cond) ∈ w0 := List.mem_append_right _ (List.mem_append_right _ (List.mem_append_right _ (List.mem_append_right _ (List.mem_append_right _ (List.mem_append_right _ (List.mem_append_right _ (List.mem_append_right _ (List.mem_append_right _ (List.mem_append_right _ (List.mem_append_right _ (List.mem_append_right _ (List.mem_append_right _ (List.mem_append_left _ (List.mem_of_getElem? (i := 37) rfl))))))))))))))
theorem wm_558 : (.instanceMethod y_K_revision : Cond) ∈ w0 := List.mem_append_right _ (List.mem_append_right _ (List.mem_append_right _ (List.mem_append_right _ (List.mem_append_right _ (List.mem_append_right _ (List.mem_append_right _ (List.mem_append_right _ (List.mem_append_right _ (List.mem_append_right _ (List.mem_append_right _ (List.mem_append_right _ (List.mem_append_right _ (List.mem_append_left _ (List.mem_of_getElem? (i := 38) rfl))))))))))))))
theorem wm_559 : (.selects R_K y_K_revision y_K_revision : Cond) ∈ w0 := List.mem_append_right _ (List.mem_append_right _ (List.mem_append_right _ (List.mem_append_right _ (List.mem_append_right _ (List.mem_append_right _ (List.mem_append_right _ (List.mem_append_right _ (List.mem_append_right _ (List.mem_append_right _ (List.mem_append_right _ (List.mem_append_right _ (List.mem_append_right _ (List.mem_append_left _ (List.mem_of_getElem? (i := 39) rfl))))))))))))))
theorem wm_560 : (.code y_K_revision prog_1_method_12_code 7 (some .int) : Cond) ∈ w0 := List.mem_append_right _ (List.mem_append_right _ (List.mem_append_right _ (List.mem_append_right _ (List.mem_append_right _ (List.mem_append_right _ (List.mem_append_right _ (List.mem_append_right _ (List.mem_append_right _ (List.mem_append_right _ (List.mem_append_right _ (List.mem_append_right _ (List.mem_append_right _ (List.mem_append_right _ (List.mem_append_left _ (List.mem_of_getElem? (i := 0) rfl)))))))))))))))
theorem wm_561 : (.methodLink R_L 55 y_K_pieceByte : Cond) ∈ w0 := List.mem_append_right _ (List.mem_append_right _ (List.mem_append_right _ (List.mem_append_right _ (List.mem_append_right _ (List.mem_append_right _ (List.mem_append_right _ (List.mem_append_right _ (List.mem_append_right _ (List.mem_append_right _ (List.mem_append_right _ (List.mem_append_right _ (List.mem_append_right _ (List.mem_append_right _ (List.mem_append_left _ (List.mem_of_getElem? (i := 1) rfl)))))))))))))))
theorem wm_562 : (.instanceMethod y_K_pieceByte : Cond) ∈ w0 := List.mem_append_right _ (List.mem_append_right _ (List.mem_append_right _ (List.mem_append_right _ (List.mem_append_right _ (List.mem_append_right _ (List.mem_append_right _ (List.mem_append_right _ (List.mem_append_right _ (List.mem_append_right _ (List.mem_append_right _ (List.mem_append_right _ (List.mem_append_right _ (List.mem_append_right _ (List.mem_append_left _ (List.mem_of_getElem? (i := 2) rfl)))))))))))))))
theorem wm_563 : (.selects R_K y_K_pieceByte y_K_pieceByte : Cond) ∈ w0 := List.mem_append_right _ (List.mem_append_right _ (List.mem_append_right _ (List.mem_append_right _ (List.mem_append_right _ (List.mem_append_right _ (List.mem_append_right _ (List.mem_append_right _ (List.mem_append_right _ (List.mem_append_right _ (List.mem_append_right _ (List.mem_append_right _ (List.mem_append_right _ (List.mem_append_right _ (List.mem_append_left _ (List.mem_of_getElem? (i := 3) rfl)))))))))))))))
theorem wm_564 : (.code y_K_pieceByte prog_1_method_13_code 5 (some .int) : Cond) ∈ w0 := List.mem_append_right _ (List.mem_append_right _ (List.mem_append_right _ (List.mem_append_right _ (List.mem_append_right _ (List.mem_append_right _ (List.mem_append_right _ (List.mem_append_right _ (List.mem_append_right _ (List.mem_append_right _ (List.mem_append_right _ (List.mem_append_right _ (List.mem_append_right _ (List.mem_append_right _ (List.mem_append_left _ (List.mem_of_getElem? (i := 4) rfl)))))))))))))))
theorem wm_565 : (.methodLink R_L 58 y_K_damage : Cond) ∈ w0 := List.mem_append_right _ (List.mem_append_right _ (List.mem_append_right _ (List.mem_append_right _ (List.mem_append_right _ (List.mem_append_right _ (List.mem_append_right _ (List.mem_append_right _ (List.mem_append_right _ (List.mem_append_right _ (List.mem_append_right _ (List.mem_append_right _ (List.mem_append_right _ (List.mem_append_right _ (List.mem_append_left _ (List.mem_of_getElem? (i := 5) rfl)))))))))))))))
theorem wm_566 : (.instanceMethod y_K_damage : Cond) ∈ w0 := List.mem_append_right _ (List.mem_append_right _ (List.mem_append_right _ (List.mem_append_right _ (List.mem_append_right _ (List.mem_append_right _ (List.mem_append_right _ (List.mem_append_right _ (List.mem_append_right _ (List.mem_append_right _ (List.mem_append_right _ (List.mem_append_right _ (List.mem_append_right _ (List.mem_append_right _ (List.mem_append_left _ (List.mem_of_getElem? (i := 6) rfl)))))))))))))))
theorem wm_567 : (.selects R_K y_K_damage y_K_damage : Cond) ∈ w0 := List.mem_append_right _ (List.mem_append_right _ (List.mem_append_right _ (List.mem_append_right _ (List.mem_append_right _ (List.mem_append_right _ (List.mem_append_right _ (List.mem_append_right _ (List.mem_append_right _ (List.mem_append_right _ (List.mem_append_right _ (List.mem_append_right _ (List.mem_append_right _ (List.mem_append_right _ (List.mem_append_left _ (List.mem_of_getElem? (i := 7) rfl)))))))))))))))
theorem wm_568 : (.code y_K_damage prog_1_method_14_code 6 (some .boolean) : Cond) ∈ w0 := List.mem_append_right _ (List.mem_append_right _ (List.mem_append_right _ (List.mem_append_right _ (List.mem_append_right _ (List.mem_append_right _ (List.mem_append_right _ (List.mem_append_right _ (List.mem_append_right _ (List.mem_append_right _ (List.mem_append_right _ (List.mem_append_right _ (List.mem_append_right _ (List.mem_append_right _ (List.mem_append_left _ (List.mem_of_getElem? (i := 8) rfl)))))))))))))))
theorem wm_569 : (.methodLink R_L 62 y_K_verify : Cond) ∈ w0 := List.mem_append_right _ (List.mem_append_right _ (List.mem_append_right _ (List.mem_append_right _ (List.mem_append_right _ (List.mem_append_right _ (List.mem_append_right _ (List.mem_append_right _ (List.mem_append_right _ (List.mem_append_right _ (List.mem_append_right _ (List.mem_append_right _ (List.mem_append_right _ (List.mem_append_right _ (List.mem_append_left _ (List.mem_of_getElem? (i := 9) rfl)))))))))))))))
theorem wm_570 : (.instanceMethod y_K_verify : Cond) ∈ w0 := List.mem_append_right _ (List.mem_append_right _ (List.mem_append_right _ (List.mem_append_right _ (List.mem_append_right _ (List.mem_append_right _ (List.mem_append_right _ (List.mem_append_right _ (List.mem_append_right _ (List.mem_append_right _ (List.mem_append_right _ (List.mem_append_right _ (List.mem_append_right _ (List.mem_append_right _ (List.mem_append_left _ (List.mem_of_getElem? (i := 10) rfl)))))))))))))))
theorem wm_571 : (.selects R_K y_K_verify y_K_verify : Cond) ∈ w0 := List.mem_append_right _ (List.mem_append_right _ (List.mem_append_right _ (List.mem_append_right _ (List.mem_append_right _ (List.mem_append_right _ (List.mem_append_right _ (List.mem_append_right _ (List.mem_append_right _ (List.mem_append_right _ (List.mem_append_right _ (List.mem_append_right _ (List.mem_append_right _ (List.mem_append_right _ (List.mem_append_left _ (List.mem_of_getElem? (i := 11) rfl)))))))))))))))
theorem wm_572 : (.code y_K_verify prog_1_method_15_code 4 (some .int) : Cond) ∈ w0 := List.mem_append_right _ (List.mem_append_right _ (List.mem_append_right _ (List.mem_append_right _ (List.mem_append_right _ (List.mem_append_right _ (List.mem_append_right _ (List.mem_append_right _ (List.mem_append_right _ (List.mem_append_right _ (List.mem_append_right _ (List.mem_append_right _ (List.mem_append_right _ (List.mem_append_right _ (List.mem_append_left _ (List.mem_of_getElem? (i := 12) rfl)))))))))))))))
theorem wm_573 : (.methodLink R_L 65 y_K_common : Cond) ∈ w0 := List.mem_append_right _ (List.mem_append_right _ (List.mem_append_right _ (List.mem_append_right _ (List.mem_append_right _ (List.mem_append_right _ (List.mem_append_right _ (List.mem_append_right _ (List.mem_append_right _ (List.mem_append_right _ (List.mem_append_right _ (List.mem_append_right _ (List.mem_append_right _ (List.mem_append_right _ (List.mem_append_left _ (List.mem_of_getElem? (i := 13) rfl)))))))))))))))
theorem wm_574 : (.instanceMethod y_K_common : Cond) ∈ w0 := List.mem_append_right _ (List.mem_append_right _ (List.mem_append_right _ (List.mem_append_right _ (List.mem_append_right _ (List.mem_append_right _ (List.mem_append_right _ (List.mem_append_right _ (List.mem_append_right _ (List.mem_append_right _ (List.mem_append_right _ (List.mem_append_right _ (List.mem_append_right _ (List.mem_append_right _ (List.mem_append_left _ (List.mem_of_getElem? (i := 14) rfl)))))))))))))))
theorem wm_575 : (.selects R_K y_K_common y_K_common : Cond) ∈ w0 := List.mem_append_right _ (List.mem_append_right _ (List.mem_append_right _ (List.mem_append_right _ (List.mem_append_right _ (List.mem_append_right _ (List.mem_append_right _ (List.mem_append_right _ (List.mem_append_right _ (List.mem_append_right _ (List.mem_append_right _ (List.mem_append_right _ (List.mem_append_right _ (List.mem_append_right _ (List.mem_append_left _ (List.mem_of_getElem? (i := 15) rfl)))))))))))))))
theorem wm_576 : (.code y_K_common prog_1_method_16_code 9 (some .int) : Cond) ∈ w0 := List.mem_append_right _ (List.mem_append_right _ (List.mem_append_right _ (List.mem_append_right _ (List.mem_append_right _ (List.mem_append_right _ (List.mem_append_right _ (List.mem_append_right _ (List.mem_append_right _ (List.mem_append_right _ (List.mem_append_right _ (List.mem_append_right _ (List.mem_append_right _ (List.mem_append_right _ (List.mem_append_left _ (List.mem_of_getElem? (i := 16) rfl)))))))))))))))
theorem wm_577 : (.methodLink R_L 69 y_K_freeBlocks : Cond) ∈ w0 := List.mem_append_right _ (List.mem_append_right _ (List.mem_append_right _ (List.mem_append_right _ (List.mem_append_right _ (List.mem_append_right _ (List.mem_append_right _ (List.mem_append_right _ (List.mem_append_right _ (List.mem_append_right _ (List.mem_append_right _ (List.mem_append_right _ (List.mem_append_right _ (List.mem_append_right _ (List.mem_append_left _ (List.mem_of_getElem? (i := 17) rfl)))))))))))))))
theorem wm_578 : (.instanceMethod y_K_freeBlocks : Cond) ∈ w0 := List.mem_append_right _ (List.mem_append_right _ (List.mem_append_right _ (List.mem_append_right _ (List.mem_append_right _ (List.mem_append_right _ (List.mem_append_right _ (List.mem_append_right _ (List.mem_append_right _ (List.mem_append_right _ (List.mem_append_right _ (List.mem_append_right _ (List.mem_append_right _ (List.mem_append_right _ (List.mem_append_left _ (List.mem_of_getElem? (i := 18) rfl)))))))))))))))
theorem wm_579 : (.selects R_K y_K_freeBlocks y_K_freeBlocks : Cond) ∈ w0 := List.mem_append_right _ (List.mem_append_right _ (List.mem_append_right _ (List.mem_append_right _ (List.mem_append_right _ (List.mem_append_right _ (List.mem_append_right _ (List.mem_append_right _ (List.mem_append_right _ (List.mem_append_right _ (List.mem_append_right _ (List.mem_append_right _ (List.mem_append_right _ (List.mem_append_right _ (List.mem_append_left _ (List.mem_of_getElem? (i := 19) rfl)))))))))))))))
theorem wm_580 : (.code y_K_freeBlocks prog_1_method_17_code 1 (some .int) : Cond) ∈ w0 := List.mem_append_right _ (List.mem_append_right _ (List.mem_append_right _ (List.mem_append_right _ (List.mem_append_right _ (List.mem_append_right _ (List.mem_append_right _ (List.mem_append_right _ (List.mem_append_right _ (List.mem_append_right _ (List.mem_append_right _ (List.mem_append_right _ (List.mem_append_right _ (List.mem_append_right _ (List.mem_append_left _ (List.mem_of_getElem? (i := 20) rfl)))))))))))))))
theorem wm_581 : (.methodLink R_L 72 y_K_cutAfter : Cond) ∈ w0 := List.mem_append_right _ (List.mem_append_right _ (List.mem_append_right _ (List.mem_append_right _ (List.mem_append_right _ (List.mem_append_right _ (List.mem_append_right _ (List.mem_append_right _ (List.mem_append_right _ (List.mem_append_right _ (List.mem_append_right _ (List.mem_append_right _ (List.mem_append_right _ (List.mem_append_right _ (List.mem_append_left _ (List.mem_of_getElem? (i := 21) rfl)))))))))))))))
theorem wm_582 : (.instanceMethod y_K_cutAfter : Cond) ∈ w0 := List.mem_append_right _ (List.mem_append_right _ (List.mem_append_right _ (List.mem_append_right _ (List.mem_append_right _ (List.mem_append_right _ (List.mem_append_right _ (List.mem_append_right _ (List.mem_append_right _ (List.mem_append_right _ (List.mem_append_right _ (List.mem_append_right _ (List.mem_append_right _ (List.mem_append_right _ (List.mem_append_left _ (List.mem_of_getElem? (i := 22) rfl)))))))))))))))
theorem wm_583 : (.selects R_K y_K_cutAfter y_K_cutAfter : Cond) ∈ w0 := List.mem_append_right _ (List.mem_append_right _ (List.mem_append_right _ (List.mem_append_right _ (List.mem_append_right _ (List.mem_append_right _ (List.mem_append_right _ (List.mem_append_right _ (List.mem_append_right _ (List.mem_append_right _ (List.mem_append_right _ (List.mem_append_right _ (List.mem_append_right _ (List.mem_append_right _ (List.mem_append_left _ (List.mem_of_getElem? (i := 23) rfl)))))))))))))))
theorem wm_584 : (.code y_K_cutAfter prog_1_method_18_code 2 (some .boolean) : Cond) ∈ w0 := List.mem_append_right _ (List.mem_append_right _ (List.mem_append_right _ (List.mem_append_right _ (List.mem_append_right _ (List.mem_append_right _ (List.mem_append_right _ (List.mem_append_right _ (List.mem_append_right _ (List.mem_append_right _ (List.mem_append_right _ (List.mem_append_right _ (List.mem_append_right _ (List.mem_append_right _ (List.mem_append_left _ (List.mem_of_getElem? (i := 24) rfl)))))))))))))))
theorem wm_585 : (.codeWith y_L_feed method_3_code 8 (some .int) [(0, 23, 26, 13)] : Cond) ∈ w0 := List.mem_append_right _ (List.mem_append_right _ (List.mem_append_right _ (List.mem_append_right _ (List.mem_append_right _ (List.mem_append_right _ (List.mem_append_right _ (List.mem_append_right _ (List.mem_append_right _ (List.mem_append_right _ (List.mem_append_right _ (List.mem_append_right _ (List.mem_append_right _ (List.mem_append_right _ (List.mem_append_left _ (List.mem_of_getElem? (i := 25) rfl)))))))))))))))
theorem wm_586 : (.methodLink R_L 79 y_L_feed : Cond) ∈ w0 := List.mem_append_right _ (List.mem_append_right _ (List.mem_append_right _ (List.mem_append_right _ (List.mem_append_right _ (List.mem_append_right _ (List.mem_append_right _ (List.mem_append_right _ (List.mem_append_right _ (List.mem_append_right _ (List.mem_append_right _ (List.mem_append_right _ (List.mem_append_right _ (List.mem_append_right _ (List.mem_append_left _ (List.mem_of_getElem? (i := 26) rfl)))))))))))))))
theorem wm_587 : (.static y_L_feed : Cond) ∈ w0 := List.mem_append_right _ (List.mem_append_right _ (List.mem_append_right _ (List.mem_append_right _ (List.mem_append_right _ (List.mem_append_right _ (List.mem_append_right _ (List.mem_append_right _ (List.mem_append_right _ (List.mem_append_right _ (List.mem_append_right _ (List.mem_append_right _ (List.mem_append_right _ (List.mem_append_right _ (List.mem_append_left _ (List.mem_of_getElem? (i := 27) rfl)))))))))))))))
theorem wm_588 : (.initialized R_L : Cond) ∈ w0 := List.mem_append_right _ (List.mem_append_right _ (List.mem_append_right _ (List.mem_append_right _ (List.mem_append_right _ (List.mem_append_right _ (List.mem_append_right _ (List.mem_append_right _ (List.mem_append_right _ (List.mem_append_right _ (List.mem_append_right _ (List.mem_append_right _ (List.mem_append_right _ (List.mem_append_right _ (List.mem_append_left _ (List.mem_of_getElem? (i := 28) rfl)))))))))))))))
theorem wm_589 : (.methodLink R_L 84 y_O_feed : Cond) ∈ w0 := List.mem_append_right _ (List.mem_append_right _ (List.mem_append_right _ (List.mem_append_right _ (List.mem_append_right _ (List.mem_append_right _ (List.mem_append_right _ (List.mem_append_right _ (List.mem_append_right _ (List.mem_append_right _ (List.mem_append_right _ (List.mem_append_right _ (List.mem_append_right _ (List.mem_append_right _ (List.mem_append_left _ (List.mem_of_getElem? (i := 29) rfl)))))))))))))))
theorem wm_590 : (.instanceMethod y_O_feed : Cond) ∈ w0 := List.mem_append_right _ (List.mem_append_right _ (List.mem_append_right _ (List.mem_append_right _ (List.mem_append_right _ (List.mem_append_right _ (List.mem_append_right _ (List.mem_append_right _ (List.mem_append_right _ (List.mem_append_right _ (List.mem_append_right _ (List.mem_append_right _ (List.mem_append_right _ (List.mem_append_right _ (List.mem_append_left _ (List.mem_of_getElem? (i := 30) rfl)))))))))))))))
theorem wm_591 : (.selects R_O y_O_feed y_O_feed : Cond) ∈ w0 := List.mem_append_right _ (List.mem_append_right _ (List.mem_append_right _ (List.mem_append_right _ (List.mem_append_right _ (List.mem_append_right _ (List.mem_append_right _ (List.mem_append_right _ (List.mem_append_right _ (List.mem_append_right _ (List.mem_append_right _ (List.mem_append_right _ (List.mem_append_right _ (List.mem_append_right _ (List.mem_append_left _ (List.mem_of_getElem? (i := 31) rfl)))))))))))))))
theorem wm_592 : (.code y_O_feed prog_9_method_5_code 8 (some .boolean) : Cond) ∈ w0 := List.mem_append_right _ (List.mem_append_right _ (List.mem_append_right _ (List.mem_append_right _ (List.mem_append_right _ (List.mem_append_right _ (List.mem_append_right _ (List.mem_append_right _ (List.mem_append_right _ (List.mem_append_right _ (List.mem_append_right _ (List.mem_append_right _ (List.mem_append_right _ (List.mem_append_right _ (List.mem_append_left _ (List.mem_of_getElem? (i := 32) rfl)))))))))))))))
theorem wm_593 : (.codeWith y_L_end method_4_code 4 (some .int) [(0, 16, 19, 13)] : Cond) ∈ w0 := List.mem_append_right _ (List.mem_append_right _ (List.mem_append_right _ (List.mem_append_right _ (List.mem_append_right _ (List.mem_append_right _ (List.mem_append_right _ (List.mem_append_right _ (List.mem_append_right _ (List.mem_append_right _ (List.mem_append_right _ (List.mem_append_right _ (List.mem_append_right _ (List.mem_append_right _ (List.mem_append_left _ (List.mem_of_getElem? (i := 33) rfl)))))))))))))))
theorem wm_594 : (.methodLink R_L 85 y_L_end : Cond) ∈ w0 := List.mem_append_right _ (List.mem_append_right _ (List.mem_append_right _ (List.mem_append_right _ (List.mem_append_right _ (List.mem_append_right _ (List.mem_append_right _ (List.mem_append_right _ (List.mem_append_right _ (List.mem_append_right _ (List.mem_append_right _ (List.mem_append_right _ (List.mem_append_right _ (List.mem_append_right _ (List.mem_append_left _ (List.mem_of_getElem? (i := 34) rfl)))))))))))))))
theorem wm_595 : (.static y_L_end : Cond) ∈ w0 := List.mem_append_right _ (List.mem_append_right _ (List.mem_append_right _ (List.mem_append_right _ (List.mem_append_right _ (List.mem_append_right _ (List.mem_append_right _ (List.mem_append_right _ (List.mem_append_right _ (List.mem_append_right _ (List.mem_append_right _ (List.mem_append_right _ (List.mem_append_right _ (List.mem_append_right _ (List.mem_append_left _ (List.mem_of_getElem? (i := 35) rfl)))))))))))))))
theorem wm_596 : (.methodLink R_L 88 y_O_end : Cond) ∈ w0 := List.mem_append_right _ (List.mem_append_right _ (List.mem_append_right _ (List.mem_append_right _ (List.mem_append_right _ (List.mem_append_right _ (List.mem_append_right _ (List.mem_append_right _ (List.mem_append_right _ (List.mem_append_right _ (List.mem_append_right _ (List.mem_append_right _ (List.mem_append_right _ (List.mem_append_right _ (List.mem_append_left _ (List.mem_of_getElem? (i := 36) rfl)))))))))))))))
theorem wm_597 : (.instanceMethod y_O_end : Cond) ∈ w0 := List.mem_append_right _ (List.mem_append_right _ (List.mem_append_right _ (List.mem_append_right _ (List.mem_append_right _ (List.mem_append_right _ (List.mem_append_right _ (List.mem_append_right _ (List.mem_append_right _ (List.mem_append_right _ (List.mem_append_right _ (List.mem_append_right _ (List.mem_append_right _ (List.mem_append_right _ (List.mem_append_left _ (List.mem_of_getElem? (i := 37) rfl)))))))))))))))
theorem wm_598 : (.selects R_O y_O_end y_O_end : Cond) ∈ w0 := List.mem_append_right _ (List.mem_append_right _ (List.mem_append_right _ (List.mem_append_right _ (List.mem_append_right _ (List.mem_append_right _ (List.mem_append_right _ (List.mem_append_right _ (List.mem_append_right _ (List.mem_append_right _ (List.mem_append_right _ (List.mem_append_right _ (List.mem_append_right _ (List.mem_append_right _ (List.mem_append_left _ (List.mem_of_getElem? (i := 38) rfl)))))))))))))))
theorem wm_599 : (.code y_O_end prog_9_method_6_code 2 (some .boolean) : Cond) ∈ w0 := List.mem_append_right _ (List.mem_append_right _ (List.mem_append_right _ (List.mem_append_right _ (List.mem_append_right _ (List.mem_append_right _ (List.mem_append_right _ (List.mem_append_right _ (List.mem_append_right _ (List.mem_append_right _ (List.mem_append_right _ (List.mem_append_right _ (List.mem_append_right _ (List.mem_append_right _ (List.mem_append_left _ (List.mem_of_getElem? (i := 39) rfl)))))))))))))))
theorem wm_600 : (.codeWith y_L_make method_5_code 3 (some .int) [(0, 8, 11, 13)] : Cond) ∈ w0 := List.mem_append_right _ (List.mem_append_right _ (List.mem_append_right _ (List.mem_append_right _ (List.mem_append_right _ (List.mem_append_right _ (List.mem_append_right _ (List.mem_append_right _ (List.mem_append_right _ (List.mem_append_right _ (List.mem_append_right _ (List.mem_append_right _ (List.mem_append_right _ (List.mem_append_right _ (List.mem_append_right _ (List.mem_append_left _ (List.mem_of_getElem? (i := 0) rfl))))))))))))))))
theorem wm_601 : (.methodLink R_L 89 y_L_make : Cond) ∈ w0 := List.mem_append_right _ (List.mem_append_right _ (List.mem_append_right _ (List.mem_append_right _ (List.mem_append_right _ (List.mem_append_right _ (List.mem_append_right _ (List.mem_append_right _ (List.mem_append_right _ (List.mem_append_right _ (List.mem_append_right _ (List.mem_append_right _ (List.mem_append_right _ (List.mem_append_right _ (List.mem_append_right _ (List.mem_append_left _ (List.mem_of_getElem? (i := 1) rfl))))))))))))))))
theorem wm_602 : (.static y_L_make : Cond) ∈ w0 := List.mem_append_right _ (List.mem_append_right _ (List.mem_append_right _ (List.mem_append_right _ (List.mem_append_right _ (List.mem_append_right _ (List.mem_append_right _ (List.mem_append_right _ (List.mem_append_right _ (List.mem_append_right _ (List.mem_append_right _ (List.mem_append_right _ (List.mem_append_right _ (List.mem_append_right _ (List.mem_append_right _ (List.mem_append_left _ (List.mem_of_getElem? (i := 2) rfl))))))))))))))))
theorem wm_603 : (.methodLink R_L 92 y_O_make : Cond) ∈ w0 := List.mem_append_right _ (List.mem_append_right _ (List.mem_append_right _ (List.mem_append_right _ (List.mem_append_right _ (List.mem_append_right _ (List.mem_append_right _ (List.mem_append_right _ (List.mem_append_right _ (List.mem_append_right _ (List.mem_append_right _ (List.mem_append_right _ (List.mem_append_right _ (List.mem_append_right _ (List.mem_append_right _ (List.mem_append_left _ (List.mem_of_getElem? (i := 3) rfl))))))))))))))))
theorem wm_604 : (.instanceMethod y_O_make : Cond) ∈ w0 := List.mem_append_right _ (List.mem_append_right _ (List.mem_append_right _ (List.mem_append_right _ (List.mem_append_right _ (List.mem_append_right _ (List.mem_append_right _ (List.mem_append_right _ (List.mem_append_right _ (List.mem_append_right _ (List.mem_append_right _ (List.mem_append_right _ (List.mem_append_right _ (List.mem_append_right _ (List.mem_append_right _ (List.mem_append_left _ (List.mem_of_getElem? (i := 4) rfl))))))))))))))))
theorem wm_605 : (.selects R_O y_O_make y_O_make : Cond) ∈ w0 := List.mem_append_right _ (List.mem_append_right _ (List.mem_append_right _ (List.mem_append_right _ (List.mem_append_right _ (List.mem_append_right _ (List.mem_append_right _ (List.mem_append_right _ (List.mem_append_right _ (List.mem_append_right _ (List.mem_append_right _ (List.mem_append_right _ (List.mem_append_right _ (List.mem_append_right _ (List.mem_append_right _ (List.mem_append_left _ (List.mem_of_getElem? (i := 5) rfl))))))))))))))))
theorem wm_606 : (.code y_O_make prog_9_method_16_code 1 (some .int) : Cond) ∈ w0 := List.mem_append_right _ (List.mem_append_right _ (List.mem_append_right _ (List.mem_append_right _ (List.mem_append_right _ (List.mem_append_right _ (List.mem_append_right _ (List.mem_append_right _ (List.mem_append_right _ (List.mem_append_right _ (List.mem_append_right _ (List.mem_append_right _ (List.mem_append_right _ (List.mem_append_right _ (List.mem_append_right _ (List.mem_append_left _ (List.mem_of_getElem? (i := 6) rfl))))))))))))))))
theorem wm_607 : (.codeWith y_L_commit method_6_code 5 (some .int) [(0, 10, 13, 13)] : Cond) ∈ w0 := List.mem_append_right _ (List.mem_append_right _ (List.mem_append_right _ (List.mem_append_right _ (List.mem_append_right _ (List.mem_append_right _ (List.mem_append_right _ (List.mem_append_right _ (List.mem_append_right _ (List.mem_append_right _ (List.mem_append_right _ (List.mem_append_right _ (List.mem_append_right _ (List.mem_append_right _ (List.mem_append_right _ (List.mem_append_left _ (List.mem_of_getElem? (i := 7) rfl))))))))))))))))
theorem wm_608 : (.methodLink R_L 93 y_L_commit : Cond) ∈ w0 := List.mem_append_right _ (List.mem_append_right _ (List.mem_append_right _ (List.mem_append_right _ (List.mem_append_right _ (List.mem_append_right _ (List.mem_append_right _ (List.mem_append_right _ (List.mem_append_right _ (List.mem_append_right _ (List.mem_append_right _ (List.mem_append_right _ (List.mem_append_right _ (List.mem_append_right _ (List.mem_append_right _ (List.mem_append_left _ (List.mem_of_getElem? (i := 8) rfl))))))))))))))))
theorem wm_609 : (.static y_L_commit : Cond) ∈ w0 := List.mem_append_right _ (List.mem_append_right _ (List.mem_append_right _ (List.mem_append_right _ (List.mem_append_right _ (List.mem_append_right _ (List.mem_append_right _ (List.mem_append_right _ (List.mem_append_right _ (List.mem_append_right _ (List.mem_append_right _ (List.mem_append_right _ (List.mem_append_right _ (List.mem_append_right _ (List.mem_append_right _ (List.mem_append_left _ (List.mem_of_getElem? (i := 9) rfl))))))))))))))))
theorem wm_610 : (.methodLink R_L 96 y_O_commit : Cond) ∈ w0 := List.mem_append_right _ (List.mem_append_right _ (List.mem_append_right _ (List.mem_append_right _ (List.mem_append_right _ (List.mem_append_right _ (List.mem_append_right _ (List.mem_append_right _ (List.mem_append_right _ (List.mem_append_right _ (List.mem_append_right _ (List.mem_append_right _ (List.mem_append_right _ (List.mem_append_right _ (List.mem_append_right _ (List.mem_append_left _ (List.mem_of_getElem? (i := 10) rfl))))))))))))))))
theorem wm_611 : (.instanceMethod y_O_commit : Cond) ∈ w0 := List.mem_append_right _ (List.mem_append_right _ (List.mem_append_right _ (List.mem_append_right _ (List.mem_append_right _ (List.mem_append_right _ (List.mem_append_right _ (List.mem_append_right _ (List.mem_append_right _ (List.mem_append_right _ (List.mem_append_right _ (List.mem_append_right _ (List.mem_append_right _ (List.mem_append_right _ (List.mem_append_right _ (List.mem_append_left _ (List.mem_of_getElem? (i := 11) rfl))))))))))))))))
theorem wm_612 : (.selects R_O y_O_commit y_O_commit : Cond) ∈ w0 := List.mem_append_right _ (List.mem_append_right _ (List.mem_append_right _ (List.mem_append_right _ (List.mem_append_right _ (List.mem_append_right _ (List.mem_append_right _ (List.mem_append_right _ (List.mem_append_right _ (List.mem_append_right _ (List.mem_append_right _ (List.mem_append_right _ (List.mem_append_right _ (List.mem_append_right _ (List.mem_append_right _ (List.mem_append_left _ (List.mem_of_getElem? (i := 12) rfl))))))))))))))))
theorem wm_613 : (.code y_O_commit prog_9_method_27_code 7 (some .int) : Cond) ∈ w0 := List.mem_append_right _ (List.mem_append_right _ (List.mem_append_right _ (List.mem_append_right _ (List.mem_append_right _ (List.mem_append_right _ (List.mem_append_right _ (List.mem_append_right _ (List.mem_append_right _ (List.mem_append_right _ (List.mem_append_right _ (List.mem_append_right _ (List.mem_append_right _ (List.mem_append_right _ (List.mem_append_right _ (List.mem_append_left _ (List.mem_of_getElem? (i := 13) rfl))))))))))))))))
theorem wm_614 : (.methodLink R_L 97 y_O_thrown : Cond) ∈ w0 := List.mem_append_right _ (List.mem_append_right _ (List.mem_append_right _ (List.mem_append_right _ (List.mem_append_right _ (List.mem_append_right _ (List.mem_append_right _ (List.mem_append_right _ (List.mem_append_right _ (List.mem_append_right _ (List.mem_append_right _ (List.mem_append_right _ (List.mem_append_right _ (List.mem_append_right _ (List.mem_append_right _ (List.mem_append_left _ (List.mem_of_getElem? (i := 14) rfl))))))))))))))))
theorem wm_615 : (.instanceMethod y_O_thrown : Cond) ∈ w0 := List.mem_append_right _ (List.mem_append_right _ (List.mem_append_right _ (List.mem_append_right _ (List.mem_append_right _ (List.mem_append_right _ (List.mem_append_right _ (List.mem_append_right _ (List.mem_append_right _ (List.mem_append_right _ (List.mem_append_right _ (List.mem_append_right _ (List.mem_append_right _ (List.mem_append_right _ (List.mem_append_right _ (List.mem_append_left _ (List.mem_of_getElem? (i := 15) rfl))))))))))))))))
theorem wm_616 : (.selects R_O y_O_thrown y_O_thrown : Cond) ∈ w0 := List.mem_append_right _ (List.mem_append_right _ (List.mem_append_right _ (List.mem_append_right _ (List.mem_append_right _ (List.mem_append_right _ (List.mem_append_right _ (List.mem_append_right _ (List.mem_append_right _ (List.mem_append_right _ (List.mem_append_right _ (List.mem_append_right _ (List.mem_append_right _ (List.mem_append_right _ (List.mem_append_right _ (List.mem_append_left _ (List.mem_of_getElem? (i := 16) rfl))))))))))))))))
theorem wm_617 : (.code y_O_thrown prog_9_method_2_code 1 (some .int) : Cond) ∈ w0 := List.mem_append_right _ (List.mem_append_right _ (List.mem_append_right _ (List.mem_append_right _ (List.mem_append_right _ (List.mem_append_right _ (List.mem_append_right _ (List.mem_append_right _ (List.mem_append_right _ (List.mem_append_right _ (List.mem_append_right _ (List.mem_append_right _ (List.mem_append_right _ (List.mem_append_right _ (List.mem_append_right _ (List.mem_append_left _ (List.mem_of_getElem? (i := 17) rfl))))))))))))))))
theorem wm_618 : (.codeWith y_L_fetch method_7_code 5 (some .int) [(0, 10, 13, 13)] : Cond) ∈ w0 := List.mem_append_right _ (List.mem_append_right _ (List.mem_append_right _ (List.mem_append_right _ (List.mem_append_right _ (List.mem_append_right _ (List.mem_append_right _ (List.mem_append_right _ (List.mem_append_right _ (List.mem_append_right _ (List.mem_append_right _ (List.mem_append_right _ (List.mem_append_right _ (List.mem_append_right _ (List.mem_append_right _ (List.mem_append_left _ (List.mem_of_getElem? (i := 18) rfl))))))))))))))))
theorem wm_619 : (.methodLink R_L 100 y_L_fetch : Cond) ∈ w0 := List.mem_append_right _ (List.mem_append_right _ (List.mem_append_right _ (List.mem_append_right _ (List.mem_append_right _ (List.mem_append_right _ (List.mem_append_right _ (List.mem_append_right _ (List.mem_append_right _ (List.mem_append_right _ (List.mem_append_right _ (List.mem_append_right _ (List.mem_append_right _ (List.mem_append_right _ (List.mem_append_right _ (List.mem_append_left _ (List.mem_of_getElem? (i := 19) rfl))))))))))))))))
theorem wm_620 : (.static y_L_fetch : Cond) ∈ w0 := List.mem_append_right _ (List.mem_append_right _ (List.mem_append_right _ (List.mem_append_right _ (List.mem_append_right _ (List.mem_append_right _ (List.mem_append_right _ (List.mem_append_right _ (List.mem_append_right _ (List.mem_append_right _ (List.mem_append_right _ (List.mem_append_right _ (List.mem_append_right _ (List.mem_append_right _ (List.mem_append_right _ (List.mem_append_left _ (List.mem_of_getElem? (i := 20) rfl))))))))))))))))
theorem wm_621 : (.methodLink R_L 102 y_O_fetch : Cond) ∈ w0 := List.mem_append_right _ (List.mem_append_right _ (List.mem_append_right _ (List.mem_append_right _ (List.mem_append_right _ (List.mem_append_right _ (List.mem_append_right _ (List.mem_append_right _ (List.mem_append_right _ (List.mem_append_right _ (List.mem_append_right _ (List.mem_append_right _ (List.mem_append_right _ (List.mem_append_right _ (List.mem_append_right _ (List.mem_append_left _ (List.mem_of_getElem? (i := 21) rfl))))))))))))))))
theorem wm_622 : (.instanceMethod y_O_fetch : Cond) ∈ w0 := List.mem_append_right _ (List.mem_append_right _ (List.mem_append_right _ (List.mem_append_right _ (List.mem_append_right _ (List.mem_append_right _ (List.mem_append_right _ (List.mem_append_right _ (List.mem_append_right _ (List.mem_append_right _ (List.mem_append_right _ (List.mem_append_right _ (List.mem_append_right _ (List.mem_append_right _ (List.mem_append_right _ (List.mem_append_left _ (List.mem_of_getElem? (i := 22) rfl))))))))))))))))
theorem wm_623 : (.selects R_O y_O_fetch y_O_fetch : Cond) ∈ w0 := List.mem_append_right _ (List.mem_append_right _ (List.mem_append_right _ (List.mem_append_right _ (List.mem_append_right _ (List.mem_append_right _ (List.mem_append_right _ (List.mem_append_right _ (List.mem_append_right _ (List.mem_append_right _ (List.mem_append_right _ (List.mem_append_right _ (List.mem_append_right _ (List.mem_append_right _ (List.mem_append_right _ (List.mem_append_left _ (List.mem_of_getElem? (i := 23) rfl))))))))))))))))
theorem wm_624 : (.code y_O_fetch prog_9_method_28_code 4 (some .int) : Cond) ∈ w0 := List.mem_append_right _ (List.mem_append_right _ (List.mem_append_right _ (List.mem_append_right _ (List.mem_append_right _ (List.mem_append_right _ (List.mem_append_right _ (List.mem_append_right _ (List.mem_append_right _ (List.mem_append_right _ (List.mem_append_right _ (List.mem_append_right _ (List.mem_append_right _ (List.mem_append_right _ (List.mem_append_right _ (List.mem_append_left _ (List.mem_of_getElem? (i := 24) rfl))))))))))))))))
theorem wm_625 : (.codeWith y_L_out method_8_code 4 (some .int) [(0, 9, 12, 13)] : Cond) ∈ w0 := List.mem_append_right _ (List.mem_append_right _ (List.mem_append_right _ (List.mem_append_right _ (List.mem_append_right _ (List.mem_append_right _ (List.mem_append_right _ (List.mem_append_right _ (List.mem_append_right _ (List.mem_append_right _ (List.mem_append_right _ (List.mem_append_right _ (List.mem_append_right _ (List.mem_append_right _ (List.mem_append_right _ (List.mem_append_left _ (List.mem_of_getElem? (i := 25) rfl))))))))))))))))
theorem wm_626 : (.methodLink R_L 103 y_L_out : Cond) ∈ w0 := List.mem_append_right _ (List.mem_append_right _ (List.mem_append_right _ (List.mem_append_right _ (List.mem_append_right _ (List.mem_append_right _ (List.mem_append_right _ (List.mem_append_right _ (List.mem_append_right _ (List.mem_append_right _ (List.mem_append_right _ (List.mem_append_right _ (List.mem_append_right _ (List.mem_append_right _ (List.mem_append_right _ (List.mem_append_left _ (List.mem_of_getElem? (i := 26) rfl))))))))))))))))
theorem wm_627 : (.static y_L_out : Cond) ∈ w0 := List.mem_append_right _ (List.mem_append_right _ (List.mem_append_right _ (List.mem_append_right _ (List.mem_append_right _ (List.mem_append_right _ (List.mem_append_right _ (List.mem_append_right _ (List.mem_append_right _ (List.mem_append_right _ (List.mem_append_right _ (List.mem_append_right _ (List.mem_append_right _ (List.mem_append_right _ (List.mem_append_right _ (List.mem_append_left _ (List.mem_of_getElem? (i := 27) rfl))))))))))))))))
theorem wm_628 : (.methodLink R_L 105 y_O_out : Cond) ∈ w0 := List.mem_append_right _ (List.mem_append_right _ (List.mem_append_right _ (List.mem_append_right _ (List.mem_append_right _ (List.mem_append_right _ (List.mem_append_right _ (List.mem_append_right _ (List.mem_append_right _ (List.mem_append_right _ (List.mem_append_right _ (List.mem_append_right _ (List.mem_append_right _ (List.mem_append_right _ (List.mem_append_right _ (List.mem_append_left _ (List.mem_of_getElem? (i := 28) rfl))))))))))))))))
theorem wm_629 : (.instanceMethod y_O_out : Cond) ∈ w0 := List.mem_append_right _ (List.mem_append_right _ (List.mem_append_right _ (List.mem_append_right _ (List.mem_append_right _ (List.mem_append_right _ (List.mem_append_right _ (List.mem_append_right _ (List.mem_append_right _ (List.mem_append_right _ (List.mem_append_right _ (List.mem_append_right _ (List.mem_append_right _ (List.mem_append_right _ (List.mem_append_right _ (List.mem_append_left _ (List.mem_of_getElem? (i := 29) rfl))))))))))))))))
theorem wm_630 : (.selects R_O y_O_out y_O_out : Cond) ∈ w0 := List.mem_append_right _ (List.mem_append_right _ (List.mem_append_right _ (List.mem_append_right _ (List.mem_append_right _ (List.mem_append_right _ (List.mem_append_right _ (List.mem_append_right _ (List.mem_append_right _ (List.mem_append_right _ (List.mem_append_right _ (List.mem_append_right _ (List.mem_append_right _ (List.mem_append_right _ (List.mem_append_right _ (List.mem_append_left _ (List.mem_of_getElem? (i := 30) rfl))))))))))))))))
theorem wm_631 : (.code y_O_out prog_9_method_29_code 2 (some .int) : Cond) ∈ w0 := List.mem_append_right _ (List.mem_append_right _ (List.mem_append_right _ (List.mem_append_right _ (List.mem_append_right _ (List.mem_append_right _ (List.mem_append_right _ (List.mem_append_right _ (List.mem_append_right _ (List.mem_append_right _ (List.mem_append_right _ (List.mem_append_right _ (List.mem_append_right _ (List.mem_append_right _ (List.mem_append_right _ (List.mem_append_left _ (List.mem_of_getElem? (i := 31) rfl))))))))))))))))
theorem wm_632 : (.codeWith y_L_steps method_9_code 3 (some .int) [(0, 8, 11, 13)] : Cond) ∈ w0 := List.mem_append_right _ (List.mem_append_right _ (List.mem_append_right _ (List.mem_append_right _ (List.mem_append_right _ (List.mem_append_right _ (List.mem_append_right _ (List.mem_append_right _ (List.mem_append_right _ (List.mem_append_right _ (List.mem_append_right _ (List.mem_append_right _ (List.mem_append_right _ (List.mem_append_right _ (List.mem_append_right _ (List.mem_append_left _ (List.mem_of_getElem? (i := 32) rfl))))))))))))))))
theorem wm_633 : (.methodLink R_L 106 y_L_steps : Cond) ∈ w0 := List.mem_append_right _ (List.mem_append_right _ (List.mem_append_right _ (List.mem_append_right _ (List.mem_append_right _ (List.mem_append_right _ (List.mem_append_right _ (List.mem_append_right _ (List.mem_append_right _ (List.mem_append_right _ (List.mem_append_right _ (List.mem_append_right _ (List.mem_append_right _ (List.mem_append_right _ (List.mem_append_right _ (List.mem_append_left _ (List.mem_of_getElem? (i := 33) rfl))))))))))))))))
theorem wm_634 : (.static y_L_steps : Cond) ∈ w0 := List.mem_append_right _ (List.mem_append_right _ (List.mem_append_right _ (List.mem_append_right _ (List.mem_append_right _ (List.mem_append_right _ (List.mem_append_right _ (List.mem_append_right _ (List.mem_append_right _ (List.mem_append_right _ (List.mem_append_right _ (List.mem_append_right _ (List.mem_append_right _ (List.mem_append_right _ (List.mem_append_right _ (List.mem_append_left _ (List.mem_of_getElem? (i := 34) rfl))))))))))))))))
theorem wm_635 : (.methodLink R_L 108 y_O_steps : Cond) ∈ w0 := List.mem_append_right _ (List.mem_append_right _ (List.mem_append_right _ (List.mem_append_right _ (List.mem_append_right _ (List.mem_append_right _ (List.mem_append_right _ (List.mem_append_right _ (List.mem_append_right _ (List.mem_append_right _ (List.mem_append_right _ (List.mem_append_right _ (List.mem_append_right _ (List.mem_append_right _ (List.mem_append_right _ (List.mem_append_left _ (List.mem_of_getElem? (i := 35) rfl))))))))))))))))
theorem wm_636 : (.instanceMethod y_O_steps : Cond) ∈ w0 := List.mem_append_right _ (List.mem_append_right _ (List.mem_append_right _ (List.mem_append_right _ (List.mem_append_right _ (List.mem_append_right _ (List.mem_append_right _ (List.mem_append_right _ (List.mem_append_right _ (List.mem_append_right _ (List.mem_append_right _ (List.mem_append_right _ (List.mem_append_right _ (List.mem_append_right _ (List.mem_append_right _ (List.mem_append_left _ (List.mem_of_getElem? (i := 36) rfl))))))))))))))))
theorem wm_637 : (.selects R_O y_O_steps y_O_steps : Cond) ∈ w0 := List.mem_append_right _ (List.mem_append_right _ (List.mem_append_right _ (List.mem_append_right _ (List.mem_append_right _ (List.mem_append_right _ (List.mem_append_right _ (List.mem_append_right _ (List.mem_append_right _ (List.mem_append_right _ (List.mem_append_right _ (List.mem_append_right _ (List.mem_append_right _ (List.mem_append_right _ (List.mem_append_right _ (List.mem_append_left _ (List.mem_of_getElem? (i := 37) rfl))))))))))))))))
theorem wm_638 : (.code y_O_steps prog_9_method_30_code 1 (some .int) : Cond) ∈ w0 := List.mem_append_right _ (List.mem_append_right _ (List.mem_append_right _ (List.mem_append_right _ (List.mem_append_right _ (List.mem_append_right _ (List.mem_append_right _ (List.mem_append_right _ (List.mem_append_right _ (List.mem_append_right _ (List.mem_append_right _ (List.mem_append_right _ (List.mem_append_right _ (List.mem_append_right _ (List.mem_append_right _ (List.mem_append_left _ (List.mem_of_getElem? (i := 38) rfl))))))))))))))))
theorem wm_639 : (.codeWith y_L_trim method_10_code 5 (some .int) [(0, 17, 20, 13)] : Cond) ∈ w0 := List.mem_append_right _ (List.mem_append_right _ (List.mem_append_right _ (List.mem_append_right _ (List.mem_append_right _ (List.mem_append_right _ (List.mem_append_right _ (List.mem_append_right _ (List.mem_append_right _ (List.mem_append_right _ (List.mem_append_right _ (List.mem_append_right _ (List.mem_append_right _ (List.mem_append_right _ (List.mem_append_right _ (List.mem_append_left _ (List.mem_of_getElem? (i := 39) rfl))))))))))))))))
theorem wm_640 : (.methodLink R_L 109 y_L_trim : Cond) ∈ w0 := List.mem_append_right _ (List.mem_append_right _ (List.mem_append_right _ (List.mem_append_right _ (List.mem_append_right _ (List.mem_append_right _ (List.mem_append_right _ (List.mem_append_right _ (List.mem_append_right _ (List.mem_append_right _ (List.mem_append_right _ (List.mem_append_right _ (List.mem_append_right _ (List.mem_append_right _ (List.mem_append_right _ (List.mem_append_right _ (List.mem_append_left _ (List.mem_of_getElem? (i := 0) rfl)))))))))))))))))
theorem wm_641 : (.static y_L_trim : Cond) ∈ w0 := List.mem_append_right _ (List.mem_append_right _ (List.mem_append_right _ (List.mem_append_right _ (List.mem_append_right _ (List.mem_append_right _ (List.mem_append_right _ (List.mem_append_right _ (List.mem_append_right _ (List.mem_append_right _ (List.mem_append_right _ (List.mem_append_right _ (List.mem_append_right _ (List.mem_append_right _ (List.mem_append_right _ (List.mem_append_right _ (List.mem_append_left _ (List.mem_of_getElem? (i := 1) rfl)))))))))))))))))
theorem wm_642 : (.methodLink R_L 111 y_O_trim : Cond) ∈ w0 := List.mem_append_right _ (List.mem_append_right _ (List.mem_append_right _ (List.mem_append_right _ (List.mem_append_right _ (List.mem_append_right _ (List.mem_append_right _ (List.mem_append_right _ (List.mem_append_right _ (List.mem_append_right _ (List.mem_append_right _ (List.mem_append_right _ (List.mem_append_right _ (List.mem_append_right _ (List.mem_append_right _ (List.mem_append_right _ (List.mem_append_left _ (List.mem_of_getElem? (i := 2) rfl)))))))))))))))))
theorem wm_643 : (.instanceMethod y_O_trim : Cond) ∈ w0 := List.mem_append_right _ (List.mem_append_right _ (List.mem_append_right _ (List.mem_append_right _ (List.mem_append_right _ (List.mem_append_right _ (List.mem_append_right _ (List.mem_append_right _ (List.mem_append_right _ (List.mem_append_right _ (List.mem_append_right _ (List.mem_append_right _ (List.mem_append_right _ (List.mem_append_right _ (List.mem_append_right _ (List.mem_append_right _ (List.mem_append_left _ (List.mem_of_getElem? (i := 3) rfl)))))))))))))))))
theorem wm_644 : (.selects R_O y_O_trim y_O_trim : Cond) ∈ w0 := List.mem_append_right _ (List.mem_append_right _ (List.mem_append_right _ (List.mem_append_right _ (List.mem_append_right _ (List.mem_append_right _ (List.mem_append_right _ (List.mem_append_right _ (List.mem_append_right _ (List.mem_append_right _ (List.mem_append_right _ (List.mem_append_right _ (List.mem_append_right _ (List.mem_append_right _ (List.mem_append_right _ (List.mem_append_right _ (List.mem_append_left _ (List.mem_of_getElem? (i := 4) rfl)))))))))))))))))
theorem wm_645 : (.code y_O_trim prog_9_method_31_code 3 (some .boolean) : Cond) ∈ w0 := List.mem_append_right _ (List.mem_append_right _ (List.mem_append_right _ (List.mem_append_right _ (List.mem_append_right _ (List.mem_append_right _ (List.mem_append_right _ (List.mem_append_right _ (List.mem_append_right _ (List.mem_append_right _ (List.mem_append_right _ (List.mem_append_right _ (List.mem_append_right _ (List.mem_append_right _ (List.mem_append_right _ (List.mem_append_right _ (List.mem_append_left _ (List.mem_of_getElem? (i := 5) rfl)))))))))))))))))
theorem wm_646 : (.codeWith y_L_dropDocument method_11_code 4 (some .int) [(0, 16, 19, 13)] : Cond) ∈ w0 := List.mem_append_right _ (List.mem_append_right _ (List.mem_append_right _ (List.mem_append_right _ (List.mem_append_right _ (List.mem_append_right _ (List.mem_append_right _ (List.mem_append_right _ (List.mem_append_right _ (List.mem_append_right _ (List.mem_append_right _ (List.mem_append_right _ (List.mem_append_right _ (List.mem_append_right _ (List.mem_append_right _ (List.mem_append_right _ (List.mem_append_left _ (List.mem_of_getElem? (i := 6) rfl)))))))))))))))))
theorem wm_647 : (.methodLink R_L 112 y_L_dropDocument : Cond) ∈ w0 := List.mem_append_right _ (List.mem_append_right _ (List.mem_append_right _ (List.mem_append_right _ (List.mem_append_right _ (List.mem_append_right _ (List.mem_append_right _ (List.mem_append_right _ (List.mem_append_right _ (List.mem_append_right _ (List.mem_append_right _ (List.mem_append_right _ (List.mem_append_right _ (List.mem_append_right _ (List.mem_append_right _ (List.mem_append_right _ (List.mem_append_left _ (List.mem_of_getElem? (i := 7) rfl)))))))))))))))))
theorem wm_648 : (.static y_L_dropDocument : Cond) ∈ w0 := List.mem_append_right _ (List.mem_append_right _ (List.mem_append_right _ (List.mem_append_right _ (List.mem_append_right _ (List.mem_append_right _ (List.mem_append_right _ (List.mem_append_right _ (List.mem_append_right _ (List.mem_append_right _ (List.mem_append_right _ (List.mem_append_right _ (List.mem_append_right _ (List.mem_append_right _ (List.mem_append_right _ (List.mem_append_right _ (List.mem_append_left _ (List.mem_of_getElem? (i := 8) rfl)))))))))))))))))
theorem wm_649 : (.methodLink R_L 114 y_O_dropDocument : Cond) ∈ w0 := List.mem_append_right _ (List.mem_append_right _ (List.mem_append_right _ (List.mem_append_right _ (List.mem_append_right _ (List.mem_append_right _ (List.mem_append_right _ (List.mem_append_right _ (List.mem_append_right _ (List.mem_append_right _ (List.mem_append_right _ (List.mem_append_right _ (List.mem_append_right _ (List.mem_append_right _ (List.mem_append_right _ (List.mem_append_right _ (List.mem_append_left _ (List.mem_of_getElem? (i := 9) rfl)))))))))))))))))
theorem wm_650 : (.instanceMethod y_O_dropDocument : Cond) ∈ w0 := List.mem_append_right _ (List.mem_append_right _ (List.mem_append_right _ (List.mem_append_right _ (List.mem_append_right _ (List.mem_append_right _ (List.mem_append_right _ (List.mem_append_right _ (List.mem_append_right _ (List.mem_append_right _ (List.mem_append_right _ (List.mem_append_right _ (List.mem_append_right _ (List.mem_append_right _ (List.mem_append_right _ (List.mem_append_right _ (List.mem_append_left _ (List.mem_of_getElem? (i := 10) rfl)))))))))))))))))
theorem wm_651 : (.selects R_O y_O_dropDocument y_O_dropDocument : Cond) ∈ w0 := List.mem_append_right _ (List.mem_append_right _ (List.mem_append_right _ (List.mem_append_right _ (List.mem_append_right _ (List.mem_append_right _ (List.mem_append_right _ (List.mem_append_right _ (List.mem_append_right _ (List.mem_append_right _ (List.mem_append_right _ (List.mem_append_right _ (List.mem_append_right _ (List.mem_append_right _ (List.mem_append_right _ (List.mem_append_right _ (List.mem_append_left _ (List.mem_of_getElem? (i := 11) rfl)))))))))))))))))
theorem wm_652 : (.code y_O_dropDocument prog_9_method_32_code 2 (some .boolean) : Cond) ∈ w0 := List.mem_append_right _ (List.mem_append_right _ (List.mem_append_right _ (List.mem_append_right _ (List.mem_append_right _ (List.mem_append_right _ (List.mem_append_right _ (List.mem_append_right _ (List.mem_append_right _ (List.mem_append_right _ (List.mem_append_right _ (List.mem_append_right _ (List.mem_append_right _ (List.mem_append_right _ (List.mem_append_right _ (List.mem_append_right _ (List.mem_append_left _ (List.mem_of_getElem? (i := 12) rfl)))))))))))))))))
theorem wm_653 : (.codeWith y_L_about method_12_code 5 (some .int) [(0, 10, 13, 47), (0, 10, 17, 49), (0, 10, 21, 13)] : Cond) ∈ w0 := List.mem_append_right _ (List.mem_append_right _ (List.mem_append_right _ (List.mem_append_right _ (List.mem_append_right _ (List.mem_append_right _ (List.mem_append_right _ (List.mem_append_right _ (List.mem_append_right _ (List.mem_append_right _ (List.mem_append_right _ (List.mem_append_right _ (List.mem_append_right _ (List.mem_append_right _ (List.mem_append_right _ (List.mem_append_right _ (List.mem_append_left _ (List.mem_of_getElem? (i := 13) rfl)))))))))))))))))
theorem wm_654 : (.methodLink R_L 115 y_L_about : Cond) ∈ w0 := List.mem_append_right _ (List.mem_append_right _ (List.mem_append_right _ (List.mem_append_right _ (List.mem_append_right _ (List.mem_append_right _ (List.mem_append_right _ (List.mem_append_right _ (List.mem_append_right _ (List.mem_append_right _ (List.mem_append_right _ (List.mem_append_right _ (List.mem_append_right _ (List.mem_append_right _ (List.mem_append_right _ (List.mem_append_right _ (List.mem_append_left _ (List.mem_of_getElem? (i := 14) rfl)))))))))))))))))
theorem wm_655 : (.static y_L_about : Cond) ∈ w0 := List.mem_append_right _ (List.mem_append_right _ (List.mem_append_right _ (List.mem_append_right _ (List.mem_append_right _ (List.mem_append_right _ (List.mem_append_right _ (List.mem_append_right _ (List.mem_append_right _ (List.mem_append_right _ (List.mem_append_right _ (List.mem_append_right _ (List.mem_append_right _ (List.mem_append_right _ (List.mem_append_right _ (List.mem_append_right _ (List.mem_append_left _ (List.mem_of_getElem? (i := 15) rfl)))))))))))))))))
theorem wm_656 : (.methodLink R_L 117 y_O_about : Cond) ∈ w0 := List.mem_append_right _ (List.mem_append_right _ (List.mem_append_right _ (List.mem_append_right _ (List.mem_append_right _ (List.mem_append_right _ (List.mem_append_right _ (List.mem_append_right _ (List.mem_append_right _ (List.mem_append_right _ (List.mem_append_right _ (List.mem_append_right _ (List.mem_append_right _ (List.mem_append_right _ (List.mem_append_right _ (List.mem_append_right _ (List.mem_append_left _ (List.mem_of_getElem? (i := 16) rfl)))))))))))))))))
theorem wm_657 : (.instanceMethod y_O_about : Cond) ∈ w0 := List.mem_append_right _ (List.mem_append_right _ (List.mem_append_right _ (List.mem_append_right _ (List.mem_append_right _ (List.mem_append_right _ (List.mem_append_right _ (List.mem_append_right _ (List.mem_append_right _ (List.mem_append_right _ (List.mem_append_right _ (List.mem_append_right _ (List.mem_append_right _ (List.mem_append_right _ (List.mem_append_right _ (List.mem_append_right _ (List.mem_append_left _ (List.mem_of_getElem? (i := 17) rfl)))))))))))))))))
theorem wm_658 : (.selects R_O y_O_about y_O_about : Cond) ∈ w0 := List.mem_append_right _ (List.mem_append_right _ (List.mem_append_right _ (List.mem_append_right _ (List.mem_append_right _ (List.mem_append_right _ (List.mem_append_right _ (List.mem_append_right _ (List.mem_append_right _ (List.mem_append_right _ (List.mem_append_right _ (List.mem_append_right _ (List.mem_append_right _ (List.mem_append_right _ (List.mem_append_right _ (List.mem_append_right _ (List.mem_append_left _ (List.mem_of_getElem? (i := 18) rfl)))))))))))))))))
theorem wm_659 : (.code y_O_about prog_9_method_33_code 3 (some .int) : Cond) ∈ w0 := List.mem_append_right _ (List.mem_append_right _ (List.mem_append_right _ (List.mem_append_right _ (List.mem_append_right _ (List.mem_append_right _ (List.mem_append_right _ (List.mem_append_right _ (List.mem_append_right _ (List.mem_append_right _ (List.mem_append_right _ (List.mem_append_right _ (List.mem_append_right _ (List.mem_append_right _ (List.mem_append_right _ (List.mem_append_right _ (List.mem_append_left _ (List.mem_of_getElem? (i := 19) rfl)))))))))))))))))
theorem wm_660 : (.codeWith y_L_revision method_13_code 6 (some .int) [(0, 12, 15, 47), (0, 12, 19, 49), (0, 12, 23, 13)] : Cond) ∈ w0 := List.mem_append_right _ (List.mem_append_right _ (List.mem_append_right _ (List.mem_append_right _ (List.mem_append_right _ (List.mem_append_right _ (List.mem_append_right _ (List.mem_append_right _ (List.mem_append_right _ (List.mem_append_right _ (List.mem_append_right _ (List.mem_append_right _ (List.mem_append_right _ (List.mem_append_right _ (List.mem_append_right _ (List.mem_append_right _ (List.mem_append_left _ (List.mem_of_getElem? (i := 20) rfl)))))))))))))))))
theorem wm_661 : (.methodLink R_L 118 y_L_revision : Cond) ∈ w0 := List.mem_append_right _ (List.mem_append_right _ (List.mem_append_right _ (List.mem_append_right _ (List.mem_append_right _ (List.mem_append_right _ (List.mem_append_right _ (List.mem_append_right _ (List.mem_append_right _ (List.mem_append_right _ (List.mem_append_right _ (List.mem_append_right _ (List.mem_append_right _ (List.mem_append_right _ (List.mem_append_right _ (List.mem_append_right _ (List.mem_append_left _ (List.mem_of_getElem? (i := 21) rfl)))))))))))))))))
theorem wm_662 : (.static y_L_revision : Cond) ∈ w0 := List.mem_append_right _ (List.mem_append_right _ (List.mem_append_right _ (List.mem_append_right _ (List.mem_append_right _ (List.mem_append_right _ (List.mem_append_right _ (List.mem_append_right _ (List.mem_append_right _ (List.mem_append_right _ (List.mem_append_right _ (List.mem_append_right _ (List.mem_append_right _ (List.mem_append_right _ (List.mem_append_right _ (List.mem_append_right _ (List.mem_append_left _ (List.mem_of_getElem? (i := 22) rfl)))))))))))))))))
theorem wm_663 : (.methodLink R_L 121 y_O_revision : Cond) ∈ w0 := List.mem_append_right _ (List.mem_append_right _ (List.mem_append_right _ (List.mem_append_right _ (List.mem_append_right _ (List.mem_append_right _ (List.mem_append_right _ (List.mem_append_right _ (List.mem_append_right _ (List.mem_append_right _ (List.mem_append_right _ (List.mem_append_right _ (List.mem_append_right _ (List.mem_append_right _ (List.mem_append_right _ (List.mem_append_right _ (List.mem_append_left _ (List.mem_of_getElem? (i := 23) rfl)))))))))))))))))
theorem wm_664 : (.instanceMethod y_O_revision : Cond) ∈ w0 := List.mem_append_right _ (List.mem_append_right _ (List.mem_append_right _ (List.mem_append_right _ (List.mem_append_right _ (List.mem_append_right _ (List.mem_append_right _ (List.mem_append_right _ (List.mem_append_right _ (List.mem_append_right _ (List.mem_append_right _ (List.mem_append_right _ (List.mem_append_right _ (List.mem_append_right _ (List.mem_append_right _ (List.mem_append_right _ (List.mem_append_left _ (List.mem_of_getElem? (i := 24) rfl)))))))))))))))))
theorem wm_665 : (.selects R_O y_O_revision y_O_revision : Cond) ∈ w0 := List.mem_append_right _ (List.mem_append_right _ (List.mem_append_right _ (List.mem_append_right _ (List.mem_append_right _ (List.mem_append_right _ (List.mem_append_right _ (List.mem_append_right _ (List.mem_append_right _ (List.mem_append_right _ (List.mem_append_right _ (List.mem_append_right _ (List.mem_append_right _ (List.mem_append_right _ (List.mem_append_right _ (List.mem_append_right _ (List.mem_append_left _ (List.mem_of_getElem? (i := 25) rfl)))))))))))))))))
theorem wm_666 : (.code y_O_revision prog_9_method_34_code 5 (some .int) : Cond) ∈ w0 := List.mem_append_right _ (List.mem_append_right _ (List.mem_append_right _ (List.mem_append_right _ (List.mem_append_right _ (List.mem_append_right _ (List.mem_append_right _ (List.mem_append_right _ (List.mem_append_right _ (List.mem_append_right _ (List.mem_append_right _ (List.mem_append_right _ (List.mem_append_right _ (List.mem_append_right _ (List.mem_append_right _ (List.mem_append_right _ (List.mem_append_left _ (List.mem_of_getElem? (i := 26) rfl)))))))))))))))))
theorem wm_667 : (.codeWith y_L_pieceByte method_14_code 6 (some .int) [(0, 12, 15, 13)] : Cond) ∈ w0 := List.mem_append_right _ (List.mem_append_right _ (List.mem_append_right _ (List.mem_append_right _ (List.mem_append_right _ (List.mem_append_right _ (List.mem_append_right _ (List.mem_append_right _ (List.mem_append_right _ (List.mem_append_right _ (List.mem_append_right _ (List.mem_append_right _ (List.mem_append_right _ (List.mem_append_right _ (List.mem_append_right _ (List.mem_append_right _ (List.mem_append_left _ (List.mem_of_getElem? (i := 27) rfl)))))))))))))))))
theorem wm_668 : (.methodLink R_L 122 y_L_pieceByte : Cond) ∈ w0 := List.mem_append_right _ (List.mem_append_right _ (List.mem_append_right _ (List.mem_append_right _ (List.mem_append_right _ (List.mem_append_right _ (List.mem_append_right _ (List.mem_append_right _ (List.mem_append_right _ (List.mem_append_right _ (List.mem_append_right _ (List.mem_append_right _ (List.mem_append_right _ (List.mem_append_right _ (List.mem_append_right _ (List.mem_append_right _ (List.mem_append_left _ (List.mem_of_getElem? (i := 28) rfl)))))))))))))))))
theorem wm_669 : (.static y_L_pieceByte : Cond) ∈ w0 := List.mem_append_right _ (List.mem_append_right _ (List.mem_append_right _ (List.mem_append_right _ (List.mem_append_right _ (List.mem_append_right _ (List.mem_append_right _ (List.mem_append_right _ (List.mem_append_right _ (List.mem_append_right _ (List.mem_append_right _ (List.mem_append_right _ (List.mem_append_right _ (List.mem_append_right _ (List.mem_append_right _ (List.mem_append_right _ (List.mem_append_left _ (List.mem_of_getElem? (i := 29) rfl)))))))))))))))))
theorem wm_670 : (.methodLink R_L 124 y_O_pieceByte : Cond) ∈ w0 := List.mem_append_right _ (List.mem_append_right _ (List.mem_append_right _ (List.mem_append_right _ (List.mem_append_right _ (List.mem_append_right _ (List.mem_append_right _ (List.mem_append_right _ (List.mem_append_right _ (List.mem_append_right _ (List.mem_append_right _ (List.mem_append_right _ (List.mem_append_right _ (List.mem_append_right _ (List.mem_append_right _ (List.mem_append_right _ (List.mem_append_left _ (List.mem_of_getElem? (i := 30) rfl)))))))))))))))))
theorem wm_671 : (.instanceMethod y_O_pieceByte : Cond) ∈ w0 := List.mem_append_right _ (List.mem_append_right _ (List.mem_append_right _ (List.mem_append_right _ (List.mem_append_right _ (List.mem_append_right _ (List.mem_append_right _ (List.mem_append_right _ (List.mem_append_right _ (List.mem_append_right _ (List.mem_append_right _ (List.mem_append_right _ (List.mem_append_right _ (List.mem_append_right _ (List.mem_append_right _ (List.mem_append_right _ (List.mem_append_left _ (List.mem_of_getElem? (i := 31) rfl)))))))))))))))))
theorem wm_672 : (.selects R_O y_O_pieceByte y_O_pieceByte : Cond) ∈ w0 := List.mem_append_right _ (List.mem_append_right _ (List.mem_append_right _ (List.mem_append_right _ (List.mem_append_right _ (List.mem_append_right _ (List.mem_append_right _ (List.mem_append_right _ (List.mem_append_right _ (List.mem_append_right _ (List.mem_append_right _ (List.mem_append_right _ (List.mem_append_right _ (List.mem_append_right _ (List.mem_append_right _ (List.mem_append_right _ (List.mem_append_left _ (List.mem_of_getElem? (i := 32) rfl)))))))))))))))))
theorem wm_673 : (.code y_O_pieceByte prog_9_method_35_code 5 (some .int) : Cond) ∈ w0 := List.mem_append_right _ (List.mem_append_right _ (List.mem_append_right _ (List.mem_append_right _ (List.mem_append_right _ (List.mem_append_right _ (List.mem_append_right _ (List.mem_append_right _ (List.mem_append_right _ (List.mem_append_right _ (List.mem_append_right _ (List.mem_append_right _ (List.mem_append_right _ (List.mem_append_right _ (List.mem_append_right _ (List.mem_append_right _ (List.mem_append_left _ (List.mem_of_getElem? (i := 33) rfl)))))))))))))))))
theorem wm_674 : (.codeWith y_L_damage method_15_code 7 (some .int) [(0, 21, 24, 13)] : Cond) ∈ w0 := List.mem_append_right _ (List.mem_append_right _ (List.mem_append_right _ (List.mem_append_right _ (List.mem_append_right _ (List.mem_append_right _ (List.mem_append_right _ (List.mem_append_right _ (List.mem_append_right _ (List.mem_append_right _ (List.mem_append_right _ (List.mem_append_right _ (List.mem_append_right _ (List.mem_append_right _ (List.mem_append_right _ (List.mem_append_right _ (List.mem_append_left _ (List.mem_of_getElem? (i := 34) rfl)))))))))))))))))
theorem wm_675 : (.methodLink R_L 125 y_L_damage : Cond) ∈ w0 := List.mem_append_right _ (List.mem_append_right _ (List.mem_append_right _ (List.mem_append_right _ (List.mem_append_right _ (List.mem_append_right _ (List.mem_append_right _ (List.mem_append_right _ (List.mem_append_right _ (List.mem_append_right _ (List.mem_append_right _ (List.mem_append_right _ (List.mem_append_right _ (List.mem_append_right _ (List.mem_append_right _ (List.mem_append_right _ (List.mem_append_left _ (List.mem_of_getElem? (i := 35) rfl)))))))))))))))))
theorem wm_676 : (.static y_L_damage : Cond) ∈ w0 := List.mem_append_right _ (List.mem_append_right _ (List.mem_append_right _ (List.mem_append_right _ (List.mem_append_right _ (List.mem_append_right _ (List.mem_append_right _ (List.mem_append_right _ (List.mem_append_right _ (List.mem_append_right _ (List.mem_append_right _ (List.mem_append_right _ (List.mem_append_right _ (List.mem_append_right _ (List.mem_append_right _ (List.mem_append_right _ (List.mem_append_left _ (List.mem_of_getElem? (i := 36) rfl)))))))))))))))))
theorem wm_677 : (.methodLink R_L 128 y_O_damage : Cond) ∈ w0 := List.mem_append_right _ (List.mem_append_right _ (List.mem_append_right _ (List.mem_append_right _ (List.mem_append_right _ (List.mem_append_right _ (List.mem_append_right _ (List.mem_append_right _ (List.mem_append_right _ (List.mem_append_right _ (List.mem_append_right _ (List.mem_append_right _ (List.mem_append_right _ (List.mem_append_right _ (List.mem_append_right _ (List.mem_append_right _ (List.mem_append_left _ (List.mem_of_getElem? (i := 37) rfl)))))))))))))))))
theorem wm_678 : (.instanceMethod y_O_damage : Cond) ∈ w0 := List.mem_append_right _ (List.mem_append_right _ (List.mem_append_right _ (List.mem_append_right _ (List.mem_append_right _ (List.mem_append_right _ (List.mem_append_right _ (List.mem_append_right _ (List.mem_append_right _ (List.mem_append_right _ (List.mem_append_right _ (List.mem_append_right _ (List.mem_append_right _ (List.mem_append_right _ (List.mem_append_right _ (List.mem_append_right _ (List.mem_append_left _ (List.mem_of_getElem? (i := 38) rfl)))))))))))))))))
theorem wm_679 : (.selects R_O y_O_damage y_O_damage : Cond) ∈ w0 := List.mem_append_right _ (List.mem_append_right _ (List.mem_append_right _ (List.mem_append_right _ (List.mem_append_right _ (List.mem_append_right _ (List.mem_append_right _ (List.mem_append_right _ (List.mem_append_right _ (List.mem_append_right _ (List.mem_append_right _ (List.mem_append_right _ (List.mem_append_right _ (List.mem_append_right _ (List.mem_append_right _ (List.mem_append_right _ (List.mem_append_left _ (List.mem_of_getElem? (i := 39) rfl)))))))))))))))))
theorem wm_680 : (.code y_O_damage prog_9_method_36_code 6 (some .boolean) : Cond) ∈ w0 := List.mem_append_right _ (List.mem_append_right _ (List.mem_append_right _ (List.mem_append_right _ (List.mem_append_right _ (List.mem_append_right _ (List.mem_append_right _ (List.mem_append_right _ (List.mem_append_right _ (List.mem_append_right _ (List.mem_append_right _ (List.mem_append_right _ (List.mem_append_right _ (List.mem_append_right _ (List.mem_append_right _ (List.mem_append_right _ (List.mem_append_right _ (List.mem_append_left _ (List.mem_of_getElem? (i := 0) rfl))))))))))))))))))
theorem wm_681 : (.codeWith y_L_verify method_16_code 4 (some .int) [(0, 9, 12, 13)] : Cond) ∈ w0 := List.mem_append_right _ (List.mem_append_right _ (List.mem_append_right _ (List.mem_append_right _ (List.mem_append_right _ (List.mem_append_right _ (List.mem_append_right _ (List.mem_append_right _ (List.mem_append_right _ (List.mem_append_right _ (List.mem_append_right _ (List.mem_append_right _ (List.mem_append_right _ (List.mem_append_right _ (List.mem_append_right _ (List.mem_append_right _ (List.mem_append_right _ (List.mem_append_left _ (List.mem_of_getElem? (i := 1) rfl))))))))))))))))))
theorem wm_682 : (.methodLink R_L 129 y_L_verify : Cond) ∈ w0 := List.mem_append_right _ (List.mem_append_right _ (List.mem_append_right _ (List.mem_append_right _ (List.mem_append_right _ (List.mem_append_right _ (List.mem_append_right _ (List.mem_append_right _ (List.mem_append_right _ (List.mem_append_right _ (List.mem_append_right _ (List.mem_append_right _ (List.mem_append_right _ (List.mem_append_right _ (List.mem_append_right _ (List.mem_append_right _ (List.mem_append_right _ (List.mem_append_left _ (List.mem_of_getElem? (i := 2) rfl))))))))))))))))))
theorem wm_683 : (.static y_L_verify : Cond) ∈ w0 := List.mem_append_right _ (List.mem_append_right _ (List.mem_append_right _ (List.mem_append_right _ (List.mem_append_right _ (List.mem_append_right _ (List.mem_append_right _ (List.mem_append_right _ (List.mem_append_right _ (List.mem_append_right _ (List.mem_append_right _ (List.mem_append_right _ (List.mem_append_right _ (List.mem_append_right _ (List.mem_append_right _ (List.mem_append_right _ (List.mem_append_right _ (List.mem_append_left _ (List.mem_of_getElem? (i := 3) rfl))))))))))))))))))
theorem wm_684 : (.methodLink R_L 131 y_O_verify : Cond) ∈ w0 := List.mem_append_right _ (List.mem_append_right _ (List.mem_append_right _ (List.mem_append_right _ (List.mem_append_right _ (List.mem_append_right _ (List.mem_append_right _ (List.mem_append_right _ (List.mem_append_right _ (List.mem_append_right _ (List.mem_append_right _ (List.mem_append_right _ (List.mem_append_right _ (List.mem_append_right _ (List.mem_append_right _ (List.mem_append_right _ (List.mem_append_right _ (List.mem_append_left _ (List.mem_of_getElem? (i := 4) rfl))))))))))))))))))
theorem wm_685 : (.instanceMethod y_O_verify : Cond) ∈ w0 := List.mem_append_right _ (List.mem_append_right _ (List.mem_append_right _ (List.mem_append_right _ (List.mem_append_right _ (List.mem_append_right _ (List.mem_append_right _ (List.mem_append_right _ (List.mem_append_right _ (List.mem_append_right _ (List.mem_append_right _ (List.mem_append_right _ (List.mem_append_right _ (List.mem_append_right _ (List.mem_append_right _ (List.mem_append_right _ (List.mem_append_right _ (List.mem_append_left _ (List.mem_of_getElem? (i := 5) rfl))))))))))))))))))
theorem wm_686 : (.selects R_O y_O_verify y_O_verify : Cond) ∈ w0 := List.mem_append_right _ (List.mem_append_right _ (List.mem_append_right _ (List.mem_append_right _ (List.mem_append_right _ (List.mem_append_right _ (List.mem_append_right _ (List.mem_append_right _ (List.mem_append_right _ (List.mem_append_right _ (List.mem_append_right _ (List.mem_append_right _ (List.mem_append_right _ (List.mem_append_right _ (List.mem_append_right _ (List.mem_append_right _ (List.mem_append_right _ (List.mem_append_left _ (List.mem_of_getElem? (i := 6) rfl))))))))))))))))))
theorem wm_687 : (.code y_O_verify prog_9_method_37_code 3 (some .int) : Cond) ∈ w0 := List.mem_append_right _ (List.mem_append_right _ (List.mem_append_right _ (List.mem_append_right _ (List.mem_append_right _ (List.mem_append_right _ (List.mem_append_right _ (List.mem_append_right _ (List.mem_append_right _ (List.mem_append_right _ (List.mem_append_right _ (List.mem_append_right _ (List.mem_append_right _ (List.mem_append_right _ (List.mem_append_right _ (List.mem_append_right _ (List.mem_append_right _ (List.mem_append_left _ (List.mem_of_getElem? (i := 7) rfl))))))))))))))))))
theorem wm_688 : (.codeWith y_L_common method_17_code 7 (some .int) [(0, 14, 17, 13)] : Cond) ∈ w0 := List.mem_append_right _ (List.mem_append_right _ (List.mem_append_right _ (List.mem_append_right _ (List.mem_append_right _ (List.mem_append_right _ (List.mem_append_right _ (List.mem_append_right _ (List.mem_append_right _ (List.mem_append_right _ (List.mem_append_right _ (List.mem_append_right _ (List.mem_append_right _ (List.mem_append_right _ (List.mem_append_right _ (List.mem_append_right _ (List.mem_append_right _ (List.mem_append_left _ (List.mem_of_getElem? (i := 8) rfl))))))))))))))))))
theorem wm_689 : (.methodLink R_L 132 y_L_common : Cond) ∈ w0 := List.mem_append_right _ (List.mem_append_right _ (List.mem_append_right _ (List.mem_append_right _ (List.mem_append_right _ (List.mem_append_right _ (List.mem_append_right _ (List.mem_append_right _ (List.mem_append_right _ (List.mem_append_right _ (List.mem_append_right _ (List.mem_append_right _ (List.mem_append_right _ (List.mem_append_right _ (List.mem_append_right _ (List.mem_append_right _ (List.mem_append_right _ (List.mem_append_left _ (List.mem_of_getElem? (i := 9) rfl))))))))))))))))))
theorem wm_690 : (.static y_L_common : Cond) ∈ w0 := List.mem_append_right _ (List.mem_append_right _ (List.mem_append_right _ (List.mem_append_right _ (List.mem_append_right _ (List.mem_append_right _ (List.mem_append_right _ (List.mem_append_right _ (List.mem_append_right _ (List.mem_append_right _ (List.mem_append_right _ (List.mem_append_right _ (List.mem_append_right _ (List.mem_append_right _ (List.mem_append_right _ (List.mem_append_right _ (List.mem_append_right _ (List.mem_append_left _ (List.mem_of_getElem? (i := 10) rfl))))))))))))))))))
theorem wm_691 : (.methodLink R_L 134 y_O_common : Cond) ∈ w0 := List.mem_append_right _ (List.mem_append_right _ (List.mem_append_right _ (List.mem_append_right _ (List.mem_append_right _ (List.mem_append_right _ (List.mem_append_right _ (List.mem_append_right _ (List.mem_append_right _ (List.mem_append_right _ (List.mem_append_right _ (List.mem_append_right _ (List.mem_append_right _ (List.mem_append_right _ (List.mem_append_right _ (List.mem_append_right _ (List.mem_append_right _ (List.mem_append_left _ (List.mem_of_getElem? (i := 11) rfl))))))))))))))))))
theorem wm_692 : (.instanceMethod y_O_common : Cond) ∈ w0 := List.mem_append_right _ (List.mem_append_right _ (List.mem_append_right _ (List.mem_append_right _ (List.mem_append_right _ (List.mem_append_right _ (List.mem_append_right _ (List.mem_append_right _ (List.mem_append_right _ (List.mem_append_right _ (List.mem_append_right _ (List.mem_append_right _ (List.mem_append_right _ (List.mem_append_right _ (List.mem_append_right _ (List.mem_append_right _ (List.mem_append_right _ (List.mem_append_left _ (List.mem_of_getElem? (i := 12) rfl))))))))))))))))))
theorem wm_693 : (.selects R_O y_O_common y_O_common : Cond) ∈ w0 := List.mem_append_right _ (List.mem_append_right _ (List.mem_append_right _ (List.mem_append_right _ (List.mem_append_right _ (List.mem_append_right _ (List.mem_append_right _ (List.mem_append_right _ (List.mem_append_right _ (List.mem_append_right _ (List.mem_append_right _ (List.mem_append_right _ (List.mem_append_right _ (List.mem_append_right _ (List.mem_append_right _ (List.mem_append_right _ (List.mem_append_right _ (List.mem_append_left _ (List.mem_of_getElem? (i := 13) rfl))))))))))))))))))
theorem wm_694 : (.code y_O_common prog_9_method_38_code 8 (some .int) : Cond) ∈ w0 := List.mem_append_right _ (List.mem_append_right _ (List.mem_append_right _ (List.mem_append_right _ (List.mem_append_right _ (List.mem_append_right _ (List.mem_append_right _ (List.mem_append_right _ (List.mem_append_right _ (List.mem_append_right _ (List.mem_append_right _ (List.mem_append_right _ (List.mem_append_right _ (List.mem_append_right _ (List.mem_append_right _ (List.mem_append_right _ (List.mem_append_right _ (List.mem_append_left _ (List.mem_of_getElem? (i := 14) rfl))))))))))))))))))
theorem wm_695 : (.codeWith y_L_freeBlocks method_18_code 3 (some .int) [(0, 8, 11, 13)] : Cond) ∈ w0 := List.mem_append_right _ (List.mem_append_right _ (List.mem_append_right _ (List.mem_append_right _ (List.mem_append_right _ (List.mem_append_right _ (List.mem_append_right _ (List.mem_append_right _ (List.mem_append_right _ (List.mem_append_right _ (List.mem_append_right _ (List.mem_append_right _ (List.mem_append_right _ (List.mem_append_right _ (List.mem_append_right _ (List.mem_append_right _ (List.mem_append_right _ (List.mem_append_left _ (List.mem_of_getElem? (i := 15) rfl))))))))))))))))))
theorem wm_696 : (.methodLink R_L 135 y_L_freeBlocks : Cond) ∈ w0 := List.mem_append_right _ (List.mem_append_right _ (List.mem_append_right _ (List.mem_append_right _ (List.mem_append_right _ (List.mem_append_right _ (List.mem_append_right _ (List.mem_append_right _ (List.mem_append_right _ (List.mem_append_right _ (List.mem_append_right _ (List.mem_append_right _ (List.mem_append_right _ (List.mem_append_right _ (List.mem_append_right _ (List.mem_append_right _ (List.mem_append_right _ (List.mem_append_left _ (List.mem_of_getElem? (i := 16) rfl))))))))))))))))))
theorem wm_697 : (.static y_L_freeBlocks : Cond) ∈ w0 := List.mem_append_right _ (List.mem_append_right _ (List.mem_append_right _ (List.mem_append_right _ (List.mem_append_right _ (List.mem_append_right _ (List.mem_append_right _ (List.mem_append_right _ (List.mem_append_right _ (List.mem_append_right _ (List.mem_append_right _ (List.mem_append_right _ (List.mem_append_right _ (List.mem_append_right _ (List.mem_append_right _ (List.mem_append_right _ (List.mem_append_right _ (List.mem_append_left _ (List.mem_of_getElem? (i := 17) rfl))))))))))))))))))
theorem wm_698 : (.methodLink R_L 137 y_O_freeBlocks : Cond) ∈ w0 := List.mem_append_right _ (List.mem_append_right _ (List.mem_append_right _ (List.mem_append_right _ (List.mem_append_right _ (List.mem_append_right _ (List.mem_append_right _ (List.mem_append_right _ (List.mem_append_right _ (List.mem_append_right _ (List.mem_append_right _ (List.mem_append_right _ (List.mem_append_right _ (List.mem_append_right _ (List.mem_append_right _ (List.mem_append_right _ (List.mem_append_right _ (List.mem_append_left _ (List.mem_of_getElem? (i := 18) rfl))))))))))))))))))
theorem wm_699 : (.instanceMethod y_O_freeBlocks : Cond) ∈ w0 := List.mem_append_right _ (List.mem_append_right _ (List.mem_append_right _ (List.mem_append_right _ (List.mem_append_right _ (List.mem_append_right _ (List.mem_append_right _ (List.mem_append_right _ (List.mem_append_right _ (List.mem_append_right _ (List.mem_append_right _ (List.mem_append_right _ (List.mem_append_right _ (List.mem_append_right _ (List.mem_append_right _ (List.mem_append_right _ (List.mem_append_right _ (List.mem_append_left _ (List.mem_of_getElem? (i := 19) rfl))))))))))))))))))
theorem wm_700 : (.selects R_O y_O_freeBlocks y_O_freeBlocks : Cond) ∈ w0 := List.mem_append_right _ (List.mem_append_right _ (List.mem_append_right _ (List.mem_append_right _ (List.mem_append_right _ (List.mem_append_right _ (List.mem_append_right _ (List.mem_append_right _ (List.mem_append_right _ (List.mem_append_right _ (List.mem_append_right _ (List.mem_append_right _ (List.mem_append_right _ (List.mem_append_right _ (List.mem_append_right _ (List.mem_append_right _ (List.mem_append_right _ (List.mem_append_left _ (List.mem_of_getElem? (i := 20) rfl))))))))))))))))))
theorem wm_701 : (.code y_O_freeBlocks prog_9_method_39_code 1 (some .int) : Cond) ∈ w0 := List.mem_append_right _ (List.mem_append_right _ (List.mem_append_right _ (List.mem_append_right _ (List.mem_append_right _ (List.mem_append_right _ (List.mem_append_right _ (List.mem_append_right _ (List.mem_append_right _ (List.mem_append_right _ (List.mem_append_right _ (List.mem_append_right _ (List.mem_append_right _ (List.mem_append_right _ (List.mem_append_right _ (List.mem_append_right _ (List.mem_append_right _ (List.mem_append_left _ (List.mem_of_getElem? (i := 21) rfl))))))))))))))))))
theorem wm_702 : (.codeWith y_L_cutAfter method_19_code 4 (some .int) [(0, 16, 19, 13)] : Cond) ∈ w0 := List.mem_append_right _ (List.mem_append_right _ (List.mem_append_right _ (List.mem_append_right _ (List.mem_append_right _ (List.mem_append_right _ (List.mem_append_right _ (List.mem_append_right _ (List.mem_append_right _ (List.mem_append_right _ (List.mem_append_right _ (List.mem_append_right _ (List.mem_append_right _ (List.mem_append_right _ (List.mem_append_right _ (List.mem_append_right _ (List.mem_append_right _ (List.mem_append_left _ (List.mem_of_getElem? (i := 22) rfl))))))))))))))))))
theorem wm_703 : (.methodLink R_L 138 y_L_cutAfter : Cond) ∈ w0 := List.mem_append_right _ (List.mem_append_right _ (List.mem_append_right _ (List.mem_append_right _ (List.mem_append_right _ (List.mem_append_right _ (List.mem_append_right _ (List.mem_append_right _ (List.mem_append_right _ (List.mem_append_right _ (List.mem_append_right _ (List.mem_append_right _ (List.mem_append_right _ (List.mem_append_right _ (List.mem_append_right _ (List.mem_append_right _ (List.mem_append_right _ (List.mem_append_left _ (List.mem_of_getElem? (i := 23) rfl))))))))))))))))))
theorem wm_704 : (.static y_L_cutAfter : Cond) ∈ w0 := List.mem_append_right _ (List.mem_append_right _ (List.mem_append_right _ (List.mem_append_right _ (List.mem_append_right _ (List.mem_append_right _ (List.mem_append_right _ (List.mem_append_right _ (List.mem_append_right _ (List.mem_append_right _ (List.mem_append_right _ (List.mem_append_right _ (List.mem_append_right _ (List.mem_append_right _ (List.mem_append_right _ (List.mem_append_right _ (List.mem_append_right _ (List.mem_append_left _ (List.mem_of_getElem? (i := 24) rfl))))))))))))))))))
theorem wm_705 : (.methodLink R_L 140 y_O_cutAfter : Cond) ∈ w0 := List.mem_append_right _ (List.mem_append_right _ (List.mem_append_right _ (List.mem_append_right _ (List.mem_append_right _ (List.mem_append_right _ (List.mem_append_right _ (List.mem_append_right _ (List.mem_append_right _ (List.mem_append_right _ (List.mem_append_right _ (List.mem_append_right _ (List.mem_append_right _ (List.mem_append_right _ (List.mem_append_right _ (List.mem_append_right _ (List.mem_append_right _ (List.mem_append_left _ (List.mem_of_getElem? (i := 25) rfl))))))))))))))))))
theorem wm_706 : (.instanceMethod y_O_cutAfter : Cond) ∈ w0 := List.mem_append_right _ (List.mem_append_right _ (List.mem_append_right _ (List.mem_append_right _ (List.mem_append_right _ (List.mem_append_right _ (List.mem_append_right _ (List.mem_append_right _ (List.mem_append_right _ (List.mem_append_right _ (List.mem_append_right _ (List.mem_append_right _ (List.mem_append_right _ (List.mem_append_right _ (List.mem_append_right _ (List.mem_append_right _ (List.mem_append_right _ (List.mem_append_left _ (List.mem_of_getElem? (i := 26) rfl))))))))))))))))))
theorem wm_707 : (.selects R_O y_O_cutAfter y_O_cutAfter : Cond) ∈ w0 := List.mem_append_right _ (List.mem_append_right _ (List.mem_append_right _ (List.mem_append_right _ (List.mem_append_right _ (List.mem_append_right _ (List.mem_append_right _ (List.mem_append_right _ (List.mem_append_right _ (List.mem_append_right _ (List.mem_append_right _ (List.mem_append_right _ (List.mem_append_right _ (List.mem_append_right _ (List.mem_append_right _ (List.mem_append_right _ (List.mem_append_right _ (List.mem_append_left _ (List.mem_of_getElem? (i := 27) rfl))))))))))))))))))
theorem wm_708 : (.code y_O_cutAfter prog_9_method_40_code 2 (some .boolean) : Cond) ∈ w0 := List.mem_append_right _ (List.mem_append_right _ (List.mem_append_right _ (List.mem_append_right _ (List.mem_append_right _ (List.mem_append_right _ (List.mem_append_right _ (List.mem_append_right _ (List.mem_append_right _ (List.mem_append_right _ (List.mem_append_right _ (List.mem_append_right _ (List.mem_append_right _ (List.mem_append_right _ (List.mem_append_right _ (List.mem_append_right _ (List.mem_append_right _ (List.mem_append_left _ (List.mem_of_getElem? (i := 28) rfl))))))))))))))))))
theorem wm_709 : (.methodLink R_L 141 y_K_start : Cond) ∈ w0 := List.mem_append_right _ (List.mem_append_right _ (List.mem_append_right _ (List.mem_append_right _ (List.mem_append_right _ (List.mem_append_right _ (List.mem_append_right _ (List.mem_append_right _ (List.mem_append_right _ (List.mem_append_right _ (List.mem_append_right _ (List.mem_append_right _ (List.mem_append_right _ (List.mem_append_right _ (List.mem_append_right _ (List.mem_append_right _ (List.mem_append_right _ (List.mem_append_left _ (List.mem_of_getElem? (i := 29) rfl))))))))))))))))))
theorem wm_710 : (.instanceMethod y_K_start : Cond) ∈ w0 := List.mem_append_right _ (List.mem_append_right _ (List.mem_append_right _ (List.mem_append_right _ (List.mem_append_right _ (List.mem_append_right _ (List.mem_append_right _ (List.mem_append_right _ (List.mem_append_right _ (List.mem_append_right _ (List.mem_append_right _ (List.mem_append_right _ (List.mem_append_right _ (List.mem_append_right _ (List.mem_append_right _ (List.mem_append_right _ (List.mem_append_right _ (List.mem_append_left _ (List.mem_of_getElem? (i := 30) rfl))))))))))))))))))
theorem wm_711 : (.selects R_K y_K_start y_K_start : Cond) ∈ w0 := List.mem_append_right _ (List.mem_append_right _ (List.mem_append_right _ (List.mem_append_right _ (List.mem_append_right _ (List.mem_append_right _ (List.mem_append_right _ (List.mem_append_right _ (List.mem_append_right _ (List.mem_append_right _ (List.mem_append_right _ (List.mem_append_right _ (List.mem_append_right _ (List.mem_append_right _ (List.mem_append_right _ (List.mem_append_right _ (List.mem_append_right _ (List.mem_append_left _ (List.mem_of_getElem? (i := 31) rfl))))))))))))))))))
theorem wm_712 : (.code y_K_start prog_1_method_19_code 1 (some .boolean) : Cond) ∈ w0 := List.mem_append_right _ (List.mem_append_right _ (List.mem_append_right _ (List.mem_append_right _ (List.mem_append_right _ (List.mem_append_right _ (List.mem_append_right _ (List.mem_append_right _ (List.mem_append_right _ (List.mem_append_right _ (List.mem_append_right _ (List.mem_append_right _ (List.mem_append_right _ (List.mem_append_right _ (List.mem_append_right _ (List.mem_append_right _ (List.mem_append_right _ (List.mem_append_left _ (List.mem_of_getElem? (i := 32) rfl))))))))))))))))))
theorem wm_713 : (.methodLink R_L 145 y_O_start : Cond) ∈ w0 := List.mem_append_right _ (List.mem_append_right _ (List.mem_append_right _ (List.mem_append_right _ (List.mem_append_right _ (List.mem_append_right _ (List.mem_append_right _ (List.mem_append_right _ (List.mem_append_right _ (List.mem_append_right _ (List.mem_append_right _ (List.mem_append_right _ (List.mem_append_right _ (List.mem_append_right _ (List.mem_append_right _ (List.mem_append_right _ (List.mem_append_right _ (List.mem_append_left _ (List.mem_of_getElem? (i := 33) rfl))))))))))))))))))
theorem wm_714 : (.instanceMethod y_O_start : Cond) ∈ w0 := List.mem_append_right _ (List.mem_append_right _ (List.mem_append_right _ (List.mem_append_right _ (List.mem_append_right _ (List.mem_append_right _ (List.mem_append_right _ (List.mem_append_right _ (List.mem_append_right _ (List.mem_append_right _ (List.mem_append_right _ (List.mem_append_right _ (List.mem_append_right _ (List.mem_append_right _ (List.mem_append_right _ (List.mem_append_right _ (List.mem_append_right _ (List.mem_append_left _ (List.mem_of_getElem? (i := 34) rfl))))))))))))))))))
theorem wm_715 : (.selects R_O y_O_start y_O_start : Cond) ∈ w0 := List.mem_append_right _ (List.mem_append_right _ (List.mem_append_right _ (List.mem_append_right _ (List.mem_append_right _ (List.mem_append_right _ (List.mem_append_right _ (List.mem_append_right _ (List.mem_append_right _ (List.mem_append_right _ (List.mem_append_right _ (List.mem_append_right _ (List.mem_append_right _ (List.mem_append_right _ (List.mem_append_right _ (List.mem_append_right _ (List.mem_append_right _ (List.mem_append_left _ (List.mem_of_getElem? (i := 35) rfl))))))))))))))))))
theorem wm_716 : (.code y_O_start prog_9_method_41_code 2 (some .boolean) : Cond) ∈ w0 := List.mem_append_right _ (List.mem_append_right _ (List.mem_append_right _ (List.mem_append_right _ (List.mem_append_right _ (List.mem_append_right _ (List.mem_append_right _ (List.mem_append_right _ (List.mem_append_right _ (List.mem_append_right _ (List.mem_append_right _ (List.mem_append_right _ (List.mem_append_right _ (List.mem_append_right _ (List.mem_append_right _ (List.mem_append_right _ (List.mem_append_right _ (List.mem_append_left _ (List.mem_of_getElem? (i := 36) rfl))))))))))))))))))
theorem wm_717 : (.methodLink R_L 146 y_K_isDown : Cond) ∈ w0 := List.mem_append_right _ (List.mem_append_right _ (List.mem_append_right _ (List.mem_append_right _ (List.mem_append_right _ (List.mem_append_right _ (List.mem_append_right _ (List.mem_append_right _ (List.mem_append_right _ (List.mem_append_right _ (List.mem_append_right _ (List.mem_append_right _ (List.mem_append_right _ (List.mem_append_right _ (List.mem_append_right _ (List.mem_append_right _ (List.mem_append_right _ (List.mem_append_left _ (List.mem_of_getElem? (i := 37) rfl))))))))))))))))))
theorem wm_718 : (.instanceMethod y_K_isDown : Cond) ∈ w0 := List.mem_append_right _ (List.mem_append_right _ (List.mem_append_right _ (List.mem_append_right _ (List.mem_append_right _ (List.mem_append_right _ (List.mem_append_right _ (List.mem_append_right _ (List.mem_append_right _ (List.mem_append_right _ (List.mem_append_right _ (List.mem_append_right _ (List.mem_append_right _ (List.mem_append_right _ (List.mem_append_right _ (List.mem_append_right _ (List.mem_append_right _ (List.mem_append_left _ (List.mem_of_getElem? (i := 38) rfl))))))))))))))))))
theorem wm_719 : (.selects R_K y_K_isDown y_K_isDown : Cond) ∈ w0 := List.mem_append_right _ (List.mem_append_right _ (List.mem_append_right _ (List.mem_append_right _ (List.mem_append_right _ (List.mem_append_right _ (List.mem_append_right _ (List.mem_append_right _ (List.mem_append_right _ (List.mem_append_right _ (List.mem_append_right _ (List.mem_append_right _ (List.mem_append_right _ (List.mem_append_right _ (List.mem_append_right _ (List.mem_append_right _ (List.mem_append_right _ (List.mem_append_left _ (List.mem_of_getElem? (i := 39) rfl))))))))))))))))))
theorem wm_720 : (.code y_K_isDown prog_1_method_20_code 1 (some .boolean) : Cond) ∈ w0 := List.mem_append_right _ (List.mem_append_right _ (List.mem_append_right _ (List.mem_append_right _ (List.mem_append_right _ (List.mem_append_right _ (List.mem_append_right _ (List.mem_append_right _ (List.mem_append_right _ (List.mem_append_right _ (List.mem_append_right _ (List.mem_append_right _ (List.mem_append_right _ (List.mem_append_right _ (List.mem_append_right _ (List.mem_append_right _ (List.mem_append_right _ (List.mem_append_right _ (List.mem_of_getElem? (i := 0) rfl))))))))))))))))))
theorem wm_721 : (.methodLink R_L 149 y_O_isDown : Cond) ∈ w0 := List.mem_append_right _ (List.mem_append_right _ (List.mem_append_right _ (List.mem_append_right _ (List.mem_append_right _ (List.mem_append_right _ (List.mem_append_right _ (List.mem_append_right _ (List.mem_append_right _ (List.mem_append_right _ (List.mem_append_right _ (List.mem_append_right _ (List.mem_append_right _ (List.mem_append_right _ (List.mem_append_right _ (List.mem_append_right _ (List.mem_append_right _ (List.mem_append_right _ (List.mem_of_getElem? (i := 1) rfl))))))))))))))))))
theorem wm_722 : (.instanceMethod y_O_isDown : Cond) ∈ w0 := List.mem_append_right _ (List.mem_append_right _ (List.mem_append_right _ (List.mem_append_right _ (List.mem_append_right _ (List.mem_append_right _ (List.mem_append_right _ (List.mem_append_right _ (List.mem_append_right _ (List.mem_append_right _ (List.mem_append_right _ (List.mem_append_right _ (List.mem_append_right _ (List.mem_append_right _ (List.mem_append_right _ (List.mem_append_right _ (List.mem_append_right _ (List.mem_append_right _ (List.mem_of_getElem? (i := 2) rfl))))))))))))))))))
theorem wm_723 : (.selects R_O y_O_isDown y_O_isDown : Cond) ∈ w0 := List.mem_append_right _ (List.mem_append_right _ (List.mem_append_right _ (List.mem_append_right _ (List.mem_append_right _ (List.mem_append_right _ (List.mem_append_right _ (List.mem_append_right _ (List.mem_append_right _ (List.mem_append_right _ (List.mem_append_right _ (List.mem_append_right _ (List.mem_append_right _ (List.mem_append_right _ (List.mem_append_right _ (List.mem_append_right _ (List.mem_append_right _ (List.mem_append_right _ (List.mem_of_getElem? (i := 3) rfl))))))))))))))))))
theorem wm_724 : (.code y_O_isDown prog_9_method_42_code 1 (some .boolean) : Cond) ∈ w0 := List.mem_append_right _ (List.mem_append_right _ (List.mem_append_right _ (List.mem_append_right _ (List.mem_append_right _ (List.mem_append_right _ (List.mem_append_right _ (List.mem_append_right _ (List.mem_append_right _ (List.mem_append_right _ (List.mem_append_right _ (List.mem_append_right _ (List.mem_append_right _ (List.mem_append_right _ (List.mem_append_right _ (List.mem_append_right _ (List.mem_append_right _ (List.mem_append_right _ (List.mem_of_getElem? (i := 4) rfl))))))))))))))))))
theorem wm_725 : (.classLink R_L 8 R_K : Cond) ∈ w0 := List.mem_append_right _ (List.mem_append_right _ (List.mem_append_right _ (List.mem_append_right _ (List.mem_append_right _ (List.mem_append_right _ (List.mem_append_right _ (List.mem_append_right _ (List.mem_append_right _ (List.mem_append_right _ (List.mem_append_right _ (List.mem_append_right _ (List.mem_append_right _ (List.mem_append_right _ (List.mem_append_right _ (List.mem_append_right _ (List.mem_append_right _ (List.mem_append_right _ (List.mem_of_getElem? (i := 5) rfl))))))))))))))))))
theorem wm_726 : (.instantiable R_K 9 : Cond) ∈ w0 := List.mem_append_right _ (List.mem_append_right _ (List.mem_append_right _ (List.mem_append_right _ (List.mem_append_right _ (List.mem_append_right _ (List.mem_append_right _ (List.mem_append_right _ (List.mem_append_right _ (List.mem_append_right _ (List.mem_append_right _ (List.mem_append_right _ (List.mem_append_right _ (List.mem_append_right _ (List.mem_append_right _ (List.mem_append_right _ (List.mem_append_right _ (List.mem_append_right _ (List.mem_of_getElem? (i := 6) rfl))))))))))))))))))
theorem wm_727 : (.methodLink R_L 75 y_K_init : Cond) ∈ w0 := List.mem_append_right _ (List.mem_append_right _ (List.mem_append_right _ (List.mem_append_right _ (List.mem_append_right _ (List.mem_append_right _ (List.mem_append_right _ (List.mem_append_right _ (List.mem_append_right _ (List.mem_append_right _ (List.mem_append_right _ (List.mem_append_right _ (List.mem_append_right _ (List.mem_append_right _ (List.mem_append_right _ (List.mem_append_right _ (List.mem_append_right _ (List.mem_append_right _ (List.mem_of_getElem? (i := 7) rfl))))))))))))))))))
theorem wm_728 : (.instanceMethod y_K_init : Cond) ∈ w0 := List.mem_append_right _ (List.mem_append_right _ (List.mem_append_right _ (List.mem_append_right _ (List.mem_append_right _ (List.mem_append_right _ (List.mem_append_right _ (List.mem_append_right _ (List.mem_append_right _ (List.mem_append_right _ (List.mem_append_right _ (List.mem_append_right _ (List.mem_append_right _ (List.mem_append_right _ (List.mem_append_right _ (List.mem_append_right _ (List.mem_append_right _ (List.mem_append_right _ (List.mem_of_getElem? (i := 8) rfl))))))))))))))))))
theorem wm_729 : (.methodLink R_A 310 ⟨"[B","clone","()Ljava/lang/Object;"⟩ : Cond) ∈ w0 := List.mem_append_right _ (List.mem_append_right _ (List.mem_append_right _ (List.mem_append_right _ (List.mem_append_right _ (List.mem_append_right _ (List.mem_append_right _ (List.mem_append_right _ (List.mem_append_right _ (List.mem_append_right _ (List.mem_append_right _ (List.mem_append_right _ (List.mem_append_right _ (List.mem_append_right _ (List.mem_append_right _ (List.mem_append_right _ (List.mem_append_right _ (List.mem_append_right _ (List.mem_of_getElem? (i := 9) rfl))))))))))))))))))
theorem wm_730 : (.instanceMethod ⟨"java/lang/Object","clone","()Ljava/lang/Object;"⟩ : Cond) ∈ w0 := List.mem_append_right _ (List.mem_append_right _ (List.mem_append_right _ (List.mem_append_right _ (List.mem_append_right _ (List.mem_append_right _ (List.mem_append_right _ (List.mem_append_right _ (List.mem_append_right _ (List.mem_append_right _ (List.mem_append_right _ (List.mem_append_right _ (List.mem_append_right _ (List.mem_append_right _ (List.mem_append_right _ (List.mem_append_right _ (List.mem_append_right _ (List.mem_append_right _ (List.mem_of_getElem? (i := 10) rfl))))))))))))))))))
theorem wm_731 : (.selects "[B" ⟨"[B","clone","()Ljava/lang/Object;"⟩ ⟨"java/lang/Object","clone","()Ljava/lang/Object;"⟩ : Cond) ∈ w0 := List.mem_append_right _ (List.mem_append_right _ (List.mem_append_right _ (List.mem_append_right _ (List.mem_append_right _ (List.mem_append_right _ (List.mem_append_right _ (List.mem_append_right _ (List.mem_append_right _ (List.mem_append_right _ (List.mem_append_right _ (List.mem_append_right _ (List.mem_append_right _ (List.mem_append_right _ (List.mem_append_right _ (List.mem_append_right _ (List.mem_append_right _ (List.mem_append_right _ (List.mem_of_getElem? (i := 11) rfl))))))))))))))))))
theorem wm_732 : (.classLink R_A 311 "[B" : Cond) ∈ w0 := List.mem_append_right _ (List.mem_append_right _ (List.mem_append_right _ (List.mem_append_right _ (List.mem_append_right _ (List.mem_append_right _ (List.mem_append_right _ (List.mem_append_right _ (List.mem_append_right _ (List.mem_append_right _ (List.mem_append_right _ (List.mem_append_right _ (List.mem_append_right _ (List.mem_append_right _ (List.mem_append_right _ (List.mem_append_right _ (List.mem_append_right _ (List.mem_append_right _ (List.mem_of_getElem? (i := 12) rfl))))))))))))))))))
theorem wm_733 : (.classLink R_L 76 R_O : Cond) ∈ w0 := List.mem_append_right _ (List.mem_append_right _ (List.mem_append_right _ (List.mem_append_right _ (List.mem_append_right _ (List.mem_append_right _ (List.mem_append_right _ (List.mem_append_right _ (List.mem_append_right _ (List.mem_append_right _ (List.mem_append_right _ (List.mem_append_right _ (List.mem_append_right _ (List.mem_append_right _ (List.mem_append_right _ (List.mem_append_right _ (List.mem_append_right _ (List.mem_append_right _ (List.mem_of_getElem? (i := 13) rfl))))))))))))))))))
theorem wm_734 : (.instantiable R_O 27 : Cond) ∈ w0 := List.mem_append_right _ (List.mem_append_right _ (List.mem_append_right _ (List.mem_append_right _ (List.mem_append_right _ (List.mem_append_right _ (List.mem_append_right _ (List.mem_append_right _ (List.mem_append_right _ (List.mem_append_right _ (List.mem_append_right _ (List.mem_append_right _ (List.mem_append_right _ (List.mem_append_right _ (List.mem_append_right _ (List.mem_append_right _ (List.mem_append_right _ (List.mem_append_right _ (List.mem_of_getElem? (i := 14) rfl))))))))))))))))))
theorem wm_735 : (.methodLink R_L 78 y_O_init : Cond) ∈ w0 := List.mem_append_right _ (List.mem_append_right _ (List.mem_append_right _ (List.mem_append_right _ (List.mem_append_right _ (List.mem_append_right _ (List.mem_append_right _ (List.mem_append_right _ (List.mem_append_right _ (List.mem_append_right _ (List.mem_append_right _ (List.mem_append_right _ (List.mem_append_right _ (List.mem_append_right _ (List.mem_append_right _ (List.mem_append_right _ (List.mem_append_right _ (List.mem_append_right _ (List.mem_of_getElem? (i := 15) rfl))))))))))))))))))
theorem wm_736 : (.instanceMethod y_O_init : Cond) ∈ w0 := List.mem_append_right _ (List.mem_append_right _ (List.mem_append_right _ (List.mem_append_right _ (List.mem_append_right _ (List.mem_append_right _ (List.mem_append_right _ (List.mem_append_right _ (List.mem_append_right _ (List.mem_append_right _ (List.mem_append_right _ (List.mem_append_right _ (List.mem_append_right _ (List.mem_append_right _ (List.mem_append_right _ (List.mem_append_right _ (List.mem_append_right _ (List.mem_append_right _ (List.mem_of_getElem? (i := 16) rfl))))))))))))))))))
theorem wm_737 : (.code y_K_init prog_1_method_1_code 1 none : Cond) ∈ w0 := List.mem_append_right _ (List.mem_append_right _ (List.mem_append_right _ (List.mem_append_right _ (List.mem_append_right _ (List.mem_append_right _ (List.mem_append_right _ (List.mem_append_right _ (List.mem_append_right _ (List.mem_append_right _ (List.mem_append_right _ (List.mem_append_right _ (List.mem_append_right _ (List.mem_append_right _ (List.mem_append_right _ (List.mem_append_right _ (List.mem_append_right _ (List.mem_append_right _ (List.mem_of_getElem? (i := 17) rfl))))))))))))))))))
theorem wm_738 : (.code y_O_init prog_9_method_1_code 2 none : Cond) ∈ w0 := List.mem_append_right _ (List.mem_append_right _ (List.mem_append_right _ (List.mem_append_right _ (List.mem_append_right _ (List.mem_append_right _ (List.mem_append_right _ (List.mem_append_right _ (List.mem_append_right _ (List.mem_append_right _ (List.mem_append_right _ (List.mem_append_right _ (List.mem_append_right _ (List.mem_append_right _ (List.mem_append_right _ (List.mem_append_right _ (List.mem_append_right _ (List.mem_append_right _ (List.mem_of_getElem? (i := 18) rfl))))))))))))))))))
theorem wm_739 : (.arrayClass .long : Cond) ∈ w0 := List.mem_append_right _ (List.mem_append_right _ (List.mem_append_right _ (List.mem_append_right _ (List.mem_append_right _ (List.mem_append_right _ (List.mem_append_right _ (List.mem_append_right _ (List.mem_append_right _ (List.mem_append_right _ (List.mem_append_right _ (List.mem_append_right _ (List.mem_append_right _ (List.mem_append_right _ (List.mem_append_right _ (List.mem_append_right _ (List.mem_append_right _ (List.mem_append_right _ (List.mem_of_getElem? (i := 19) rfl))))))))))))))))))
def nw0 : List Cond := [.castable "java/lang/IllegalStateException" "java/lang/IllegalStateException",
  .declares ⟨"java/lang/RuntimeException","<init>","()V"⟩,
  .declares ⟨"java/lang/Exception","<init>","()V"⟩,
  .declares ⟨"java/lang/Throwable","<init>","()V"⟩,
  .castable "java/util/NoSuchElementException" "java/util/NoSuchElementException",
  .castable "java/lang/IllegalArgumentException" "java/lang/IllegalArgumentException",
  .fieldLinkNest R_W 23 "TextKeeper$Text" "length" "I" "TextKeeper",
  .fieldLinkNest R_M 75 "TextKeeper$Text" "length" "I" "TextKeeper",
  .methodLinkNest R_D 24 y_K_baseOf "TextKeeper",
  .fieldLinkNest R_D 28 "TextKeeper$Revision" "piece" "[B" "TextKeeper",
  .methodLinkNest R_D 32 y_K_blocksFor "TextKeeper",
  .fieldLinkNest R_M 51 "TextKeeper$Revision" "piece" "[B" "TextKeeper",
  .methodLinkNest R_M 33 y_K_baseOf "TextKeeper",
  .fieldLinkNest R_K 180 "TextKeeper$Power" "down" "Z" "TextKeeper",
  .fieldLinkNest R_K 153 "TextKeeper$Revision" "piece" "[B" "TextKeeper",
  .fieldLinkNest R_K 82 "TextKeeper$Document" "count" "I" "TextKeeper",
  .fieldLinkNest R_K 131 "TextKeeper$Text" "length" "I" "TextKeeper",
  .fieldLinkNest R_K 160 "TextKeeper$Revision" "sum" "I" "TextKeeper",
  .fieldLinkNest R_K 143 "TextKeeper$Document" "first" "I" "TextKeeper",
  .fieldLinkNest R_K 157 "TextKeeper$Revision" "author" "I" "TextKeeper"]
def ao0 : List String := ["TextKeeper$Document", "TextKeeper$Revision"]
def nw_kind : Cond → Bool
  | .fieldLinkNest .. => true
  | .methodLinkNest .. => true
  | .declares .. => true
  | .castable .. => true
  | _ => false
theorem nw0_kind : ∀ w ∈ nw0, nw_kind w = true := by decide +kernel
theorem nw0_tab : ∀ w ∈ nw0, w.onTables = true := by decide +kernel
theorem gd_places {big : List Cond} (ws : List Cond) (ps : List Nat) (hp : ws = ps.filterMap (fun i => big[i]?)) (h : ws.all goodWord = true) : GoodIn big ws := by
  intro w hw
  have h1 := List.all_eq_true.mp h w hw
  rw [hp] at hw
  obtain ⟨i, -, hi⟩ := List.mem_filterMap.mp hw
  exact ⟨List.mem_of_getElem? hi, good_of_word h1⟩
theorem gd_both {big a b : List Cond} (ha : GoodIn big a) (hb : GoodIn big b) : GoodIn big (a ++ b) := fun w h => (List.mem_append.mp h).elim (ha w) (hb w)
set_option maxRecDepth 100000 in
set_option maxHeartbeats 4000000 in
theorem w0_ok_0 : GoodIn lw_tbl w0_0 := gd_places _ [42, 43, 44, 45, 52, 53, 175, 184, 185, 193, 194, 195, 196, 197, 198, 199, 200, 201, 202, 203, 204, 205, 206, 207, 208, 209, 210, 212, 214, 215, 217, 218, 219, 220, 222, 223, 224, 225, 226, 227] rfl (by decide +kernel)
set_option maxRecDepth 100000 in
set_option maxHeartbeats 4000000 in
theorem w0_ok_1 : GoodIn lw_tbl w0_1 := gd_places _ [228, 229, 230, 231, 232, 233, 234, 236, 237, 238, 243, 246, 514, 515, 520, 521, 523, 524, 525, 526, 527, 528, 529, 530, 531, 532, 533, 534, 535, 536, 538, 539, 540, 541, 542, 543, 544, 545, 546, 547] rfl (by decide +kernel)
set_option maxRecDepth 100000 in
set_option maxHeartbeats 4000000 in
theorem w0_ok_2 : GoodIn lw_tbl w0_2 := gd_places _ [548, 549, 141, 143, 145, 147, 149, 151, 153, 155, 157, 75, 77, 93, 95, 97, 99, 110, 112, 125, 127, 129, 297, 299, 301, 439, 441, 443, 654, 656, 658, 660, 662, 664, 666, 668, 670, 672, 674, 676] rfl (by decide +kernel)
set_option maxRecDepth 100000 in
set_option maxHeartbeats 4000000 in
theorem w0_ok_3 : GoodIn lw_tbl w0_3 := gd_places _ [678, 680, 682, 684, 686, 688, 690, 692, 694, 696, 698, 700, 702, 704, 706, 120, 60, 61, 121, 123, 124, 69, 80, 70, 71, 107, 108, 109, 86, 87, 65, 37, 68, 88, 67, 89, 90, 91, 92, 59] rfl (by decide +kernel)
set_option maxRecDepth 100000 in
set_option maxHeartbeats 4000000 in
theorem w0_ok_4 : GoodIn lw_tbl w0_4 := gd_places _ [62, 132, 64, 66, 133, 134, 135, 81, 82, 38, 85, 83, 84, 136, 102, 103, 39, 106, 104, 105, 137, 115, 116, 40, 119, 117, 118, 138, 139, 140, 255, 256, 257, 258, 470, 408, 407, 49, 378, 376] rfl (by decide +kernel)
set_option maxRecDepth 100000 in
set_option maxHeartbeats 4000000 in
theorem w0_ok_5 : GoodIn lw_tbl w0_5 := gd_places _ [377, 47, 387, 388, 389, 390, 392, 12, 393, 394, 358, 359, 360, 383, 385, 11, 386, 372, 373, 374, 375, 369, 370, 371, 379, 381, 10, 382, 405, 406, 365, 367, 9, 368, 395, 396, 48, 397, 649, 650] rfl (by decide +kernel)
set_option maxRecDepth 100000 in
set_option maxHeartbeats 4000000 in
theorem w0_ok_6 : GoodIn lw_tbl w0_6 := gd_places _ [780, 782, 28, 41, 783, 631, 641, 630, 640, 776, 778, 27, 779, 768, 770, 25, 771, 772, 774, 26, 775, 653, 651, 652, 639, 352, 357, 343, 345, 6, 346, 347, 248, 249, 250, 353, 355, 8, 356, 348] rfl (by decide +kernel)
set_option maxRecDepth 100000 in
set_option maxHeartbeats 4000000 in
theorem w0_ok_7 : GoodIn lw_tbl w0_7 := gd_places _ [350, 7, 351, 642, 760, 762, 23, 763, 643, 636, 756, 758, 22, 759, 339, 341, 5, 342, 430, 431, 435, 437, 289, 290, 292, 293, 295, 326, 36, 325, 411, 410, 335, 336, 337, 46, 338, 323, 267, 268] rfl (by decide +kernel)
set_option maxRecDepth 100000 in
set_option maxHeartbeats 4000000 in
theorem w0_ok_8 : GoodIn lw_tbl w0_8 := gd_places _ [269, 331, 333, 4, 334, 327, 328, 329, 330, 628, 627, 629, 632, 633, 740, 742, 18, 743, 634, 635, 784, 785, 786, 752, 754, 21, 755, 748, 750, 20, 751, 819, 820, 821, 822, 824, 33, 825, 720, 722] rfl (by decide +kernel)
set_option maxRecDepth 100000 in
set_option maxHeartbeats 4000000 in
theorem w0_ok_9 : GoodIn lw_tbl w0_9 := gd_places _ [16, 723, 646, 645, 644, 787, 789, 29, 790, 732, 734, 17, 735, 799, 801, 31, 802, 815, 817, 32, 818, 838, 840, 34, 841, 744, 746, 19, 747, 764, 766, 24, 767, 637, 638, 791, 793, 30, 794, 311] rfl (by decide +kernel)
set_option maxRecDepth 100000 in
set_option maxHeartbeats 4000000 in
theorem w0_ok_10 : GoodIn lw_tbl w0_10 := gd_places _ [313, 3, 314, 561, 180, 182, 0, 183, 247, 251, 252, 253, 254, 266, 484, 617, 618, 619, 620, 164, 165, 166, 167, 281, 282, 283, 284, 557, 559, 14, 560, 569, 570, 571, 50, 572, 277, 279, 2, 280] rfl (by decide +kernel)
set_option maxRecDepth 100000 in
set_option maxHeartbeats 4000000 in
theorem w0_ok_11 : GoodIn lw_tbl w0_11 := gd_places _ [285, 288, 286, 287, 416, 417, 418, 419, 412, 414, 13, 415, 461, 462, 463, 464, 499, 500, 501, 502, 315, 316, 317, 318, 319, 320, 321, 322, 361, 362, 363, 364, 409, 421, 422, 423, 424, 425, 426, 429] rfl (by decide +kernel)
set_option maxRecDepth 100000 in
set_option maxHeartbeats 4000000 in
theorem w0_ok_12 : GoodIn lw_tbl w0_12 := gd_places _ [427, 428, 446, 447, 448, 449, 450, 451, 452, 453, 474, 475, 476, 465, 466, 467, 468, 469, 471, 472, 51, 473, 626, 709, 710, 711, 647, 648, 587, 589, 15, 590, 598, 599, 600, 601, 602, 176, 177, 178] rfl (by decide +kernel)
set_option maxRecDepth 100000 in
set_option maxHeartbeats 4000000 in
theorem w0_ok_13 : GoodIn lw_tbl w0_13 := gd_places _ [179, 262, 263, 264, 265, 273, 274, 275, 276, 307, 308, 309, 310, 457, 458, 459, 460, 480, 481, 482, 483, 488, 489, 490, 491, 495, 496, 497, 498, 507, 508, 509, 510, 516, 517, 518, 519, 553, 554, 555] rfl (by decide +kernel)
set_option maxRecDepth 100000 in
set_option maxHeartbeats 4000000 in
theorem w0_ok_14 : GoodIn lw_tbl w0_14 := gd_places _ [556, 565, 566, 567, 568, 576, 577, 578, 579, 583, 584, 585, 586, 594, 595, 596, 597, 606, 607, 608, 609, 613, 614, 615, 616, 174, 172, 173, 35, 716, 717, 718, 719, 261, 259, 260, 724, 725, 726, 727] rfl (by decide +kernel)
set_option maxRecDepth 100000 in
set_option maxHeartbeats 4000000 in
theorem w0_ok_15 : GoodIn lw_tbl w0_15 := gd_places _ [272, 270, 271, 728, 729, 730, 731, 306, 304, 305, 736, 737, 738, 739, 712, 713, 714, 715, 456, 454, 455, 795, 796, 797, 798, 479, 477, 478, 803, 804, 805, 806, 487, 485, 486, 807, 808, 809, 810, 494] rfl (by decide +kernel)
set_option maxRecDepth 100000 in
set_option maxHeartbeats 4000000 in
theorem w0_ok_16 : GoodIn lw_tbl w0_16 := gd_places _ [492, 493, 811, 812, 813, 814, 506, 504, 505, 826, 827, 828, 829, 513, 511, 512, 830, 831, 832, 833, 552, 550, 551, 834, 835, 836, 837, 564, 562, 563, 842, 843, 844, 845, 575, 573, 574, 846, 847, 848] rfl (by decide +kernel)
set_option maxRecDepth 100000 in
set_option maxHeartbeats 4000000 in
theorem w0_ok_17 : GoodIn lw_tbl w0_17 := gd_places _ [849, 582, 580, 581, 850, 851, 852, 853, 593, 591, 592, 854, 855, 856, 857, 605, 603, 604, 858, 859, 860, 861, 612, 610, 611, 862, 863, 864, 865, 160, 161, 162, 163, 866, 867, 868, 869, 168, 169, 170] rfl (by decide +kernel)
set_option maxRecDepth 100000 in
set_option maxHeartbeats 4000000 in
theorem w0_ok_18 : GoodIn lw_tbl w0_18 := gd_places _ [171, 870, 871, 872, 873, 54, 55, 56, 57, 398, 401, 402, 404, 621, 622, 623, 624, 58, 625, 874] rfl (by decide +kernel)
theorem w0_ok : GoodIn lw_tbl w0 := gd_both w0_ok_0 (gd_both w0_ok_1 (gd_both w0_ok_2 (gd_both w0_ok_3 (gd_both w0_ok_4 (gd_both w0_ok_5 (gd_both w0_ok_6 (gd_both w0_ok_7 (gd_both w0_ok_8 (gd_both w0_ok_9 (gd_both w0_ok_10 (gd_both w0_ok_11 (gd_both w0_ok_12 (gd_both w0_ok_13 (gd_both w0_ok_14 (gd_both w0_ok_15 (gd_both w0_ok_16 (gd_both w0_ok_17 (w0_ok_18))))))))))))))))))
theorem w0_good (w : Cond) (h : w ∈ w0) : (w.onTables && w.keeps) = true ∨ ∃ ty, w = .arrayClass ty := (w0_ok w h).2
set_option maxRecDepth 100000 in
theorem in_K : ∀ w ∈ u_ws R_K F_K 9, w ∈ w0 := by decide +kernel
theorem tk_K : ∀ k, k < 9 → parseFieldDescriptor (F_K k).2.2.1 = some (ft_K k) := by decide +kernel
theorem nk_K : ∀ a, a < 9 → ∀ b, b < 9 → a ≠ b → (F_K a).2.1 ≠ (F_K b).2.1 := by decide +kernel
theorem nw_K : ∀ j, j < 9 → defaultValue (ft_K j) = vp_V [.null, .null, .null, .null, .null, .null, .null, .int 0, .int 0] j := by decide +kernel
set_option maxRecDepth 100000 in
theorem in_T : ∀ w ∈ u_ws R_T F_T 2, w ∈ w0 := by decide +kernel
theorem tk_T : ∀ k, k < 2 → parseFieldDescriptor (F_T k).2.2.1 = some (ft_T k) := by decide +kernel
theorem nk_T : ∀ a, a < 2 → ∀ b, b < 2 → a ≠ b → (F_T a).2.1 ≠ (F_T b).2.1 := by decide +kernel
theorem nw_T : ∀ j, j < 2 → defaultValue (ft_T j) = vp_V [.null, .int 0] j := by decide +kernel
set_option maxRecDepth 100000 in
theorem in_M : ∀ w ∈ u_ws R_M F_M 4, w ∈ w0 := by decide +kernel
theorem tk_M : ∀ k, k < 4 → parseFieldDescriptor (F_M k).2.2.1 = some (ft_M k) := by decide +kernel
theorem nk_M : ∀ a, a < 4 → ∀ b, b < 4 → a ≠ b → (F_M a).2.1 ≠ (F_M b).2.1 := by decide +kernel
theorem nw_M : ∀ j, j < 4 → defaultValue (ft_M j) = vp_V [.null, .null, .null, .int 0] j := by decide +kernel
set_option maxRecDepth 100000 in
theorem in_W : ∀ w ∈ u_ws R_W F_W 2, w ∈ w0 := by decide +kernel
theorem tk_W : ∀ k, k < 2 → parseFieldDescriptor (F_W k).2.2.1 = some (ft_W k) := by decide +kernel
theorem nk_W : ∀ a, a < 2 → ∀ b, b < 2 → a ≠ b → (F_W a).2.1 ≠ (F_W b).2.1 := by decide +kernel
theorem nw_W : ∀ j, j < 2 → defaultValue (ft_W j) = vp_V [.null, .int 0] j := by decide +kernel
set_option maxRecDepth 100000 in
theorem in_P : ∀ w ∈ u_ws R_P F_P 3, w ∈ w0 := by decide +kernel
theorem tk_P : ∀ k, k < 3 → parseFieldDescriptor (F_P k).2.2.1 = some (ft_P k) := by decide +kernel
theorem nk_P : ∀ a, a < 3 → ∀ b, b < 3 → a ≠ b → (F_P a).2.1 ≠ (F_P b).2.1 := by decide +kernel
theorem nw_P : ∀ j, j < 3 → defaultValue (ft_P j) = vp_V [.int 0, .int 0, .int 0] j := by decide +kernel
set_option maxRecDepth 100000 in
theorem in_D : ∀ w ∈ u_ws R_D F_D 3, w ∈ w0 := by decide +kernel
theorem tk_D : ∀ k, k < 3 → parseFieldDescriptor (F_D k).2.2.1 = some (ft_D k) := by decide +kernel
theorem nk_D : ∀ a, a < 3 → ∀ b, b < 3 → a ≠ b → (F_D a).2.1 ≠ (F_D b).2.1 := by decide +kernel
theorem nw_D : ∀ j, j < 3 → defaultValue (ft_D j) = vp_V [.null, .int 0, .int 0] j := by decide +kernel
set_option maxRecDepth 100000 in
theorem in_V : ∀ w ∈ u_ws R_V F_V 3, w ∈ w0 := by decide +kernel
theorem tk_V : ∀ k, k < 3 → parseFieldDescriptor (F_V k).2.2.1 = some (ft_V k) := by decide +kernel
theorem nk_V : ∀ a, a < 3 → ∀ b, b < 3 → a ≠ b → (F_V a).2.1 ≠ (F_V b).2.1 := by decide +kernel
theorem nw_V : ∀ j, j < 3 → defaultValue (ft_V j) = vp_V [.null, .int 0, .int 0] j := by decide +kernel
set_option maxRecDepth 100000 in
theorem in_O : ∀ w ∈ u_ws R_O F_O 27, w ∈ w0 := by decide +kernel
theorem tk_O : ∀ k, k < 27 → parseFieldDescriptor (F_O k).2.2.1 = some (ft_O k) := by decide +kernel
theorem nk_O : ∀ a, a < 27 → ∀ b, b < 27 → a ≠ b → (F_O a).2.1 ≠ (F_O b).2.1 := by decide +kernel
theorem nw_O : ∀ j, j < 27 → defaultValue (ft_O j) = vp_V [.int 0, .int 0, .int 0, .null, .int 0, .int 0, .null, .null, .null, .null, .null, .null, .null, .null, .int 0, .null, .int 0, .null, .int 0, .int 0, .null, .int 0, .null, .int 0, .int 0, .int 0, .int 0] j := by decide +kernel
def k_K_init : List Cond := .code y_K_init prog_1_method_1_code 1 none :: w0
def k_K_about : List Cond := .code y_K_about prog_1_method_11_code 4 (some .int) :: w0
def k_K_baseOf : List Cond := .code y_K_baseOf prog_1_method_28_code 1 (some .int) :: w0
def k_K_blocksFor : List Cond := .code y_K_blocksFor prog_1_method_27_code 1 (some .int) :: w0
def k_K_commit : List Cond := .code y_K_commit prog_1_method_5_code 7 (some .int) :: w0
def k_K_common : List Cond := .code y_K_common prog_1_method_16_code 9 (some .int) :: w0
def k_K_countFree : List Cond := .code y_K_countFree prog_1_method_26_code 6 (some .int) :: w0
def k_K_cutAfter : List Cond := .code y_K_cutAfter prog_1_method_18_code 2 (some .boolean) :: w0
def k_K_damage : List Cond := .code y_K_damage prog_1_method_14_code 6 (some .boolean) :: w0
def k_K_documentAt : List Cond := .code y_K_documentAt prog_1_method_23_code 2 (some (.object "TextKeeper$Document")) :: w0
def k_K_dropDocument : List Cond := .code y_K_dropDocument prog_1_method_10_code 2 (some .boolean) :: w0
def k_K_end : List Cond := .code y_K_end prog_1_method_3_code 2 (some .boolean) :: w0
def k_K_feed : List Cond := .code y_K_feed prog_1_method_2_code 6 (some .boolean) :: w0
def k_K_fetch : List Cond := .code y_K_fetch prog_1_method_6_code 5 (some .int) :: w0
def k_K_freeBlocks : List Cond := .code y_K_freeBlocks prog_1_method_17_code 1 (some .int) :: w0
def k_K_isDown : List Cond := .code y_K_isDown prog_1_method_20_code 1 (some .boolean) :: w0
def k_K_isSound : List Cond := .code y_K_isSound prog_1_method_25_code 5 (some .boolean) :: w0
def k_K_keptRevision : List Cond := .code y_K_keptRevision prog_1_method_24_code 4 (some (.object "TextKeeper$Revision")) :: w0
def k_K_make : List Cond := .code y_K_make prog_1_method_4_code 2 (some .int) :: w0
def k_K_needPower : List Cond := .code y_K_needPower prog_1_method_21_code 1 none :: w0
def k_K_out : List Cond := .code y_K_out prog_1_method_7_code 2 (some .int) :: w0
def k_K_pieceByte : List Cond := .code y_K_pieceByte prog_1_method_13_code 5 (some .int) :: w0
def k_K_revision : List Cond := .code y_K_revision prog_1_method_12_code 7 (some .int) :: w0
def k_K_spendWrites : List Cond := .code y_K_spendWrites prog_1_method_22_code 2 none :: w0
def k_K_start : List Cond := .code y_K_start prog_1_method_19_code 1 (some .boolean) :: w0
def k_K_steps : List Cond := .code y_K_steps prog_1_method_8_code 1 (some .int) :: w0
def k_K_trim : List Cond := .code y_K_trim prog_1_method_9_code 4 (some .boolean) :: w0
def k_K_verify : List Cond := .code y_K_verify prog_1_method_15_code 4 (some .int) :: w0
def k_D_init : List Cond := .code y_D_init prog_2_method_1_code 1 none :: w0
def k_D_add : List Cond := .code y_D_add prog_2_method_6_code 2 none :: w0
def k_D_canBeAsked : List Cond := .code y_D_canBeAsked prog_2_method_4_code 2 (some .boolean) :: w0
def k_D_countBlocks : List Cond := .code y_D_countBlocks prog_2_method_8_code 3 (some .int) :: w0
def k_D_cutBefore : List Cond := .code y_D_cutBefore prog_2_method_7_code 4 none :: w0
def k_D_isFull : List Cond := .code y_D_isFull prog_2_method_2_code 1 (some .boolean) :: w0
def k_D_keptAt : List Cond := .code y_D_keptAt prog_2_method_5_code 2 (some (.object "TextKeeper$Revision")) :: w0
def k_D_newest : List Cond := .code y_D_newest prog_2_method_3_code 1 (some .int) :: w0
def k_M_init : List Cond := .code y_M_init prog_3_method_1_code 1 none :: w0
def k_M_copy : List Cond := .code y_M_copy prog_3_method_7_code 4 (some .boolean) :: w0
def k_M_insert : List Cond := .code y_M_insert prog_3_method_6_code 3 (some .boolean) :: w0
def k_M_makeAgain : List Cond := .code y_M_makeAgain prog_3_method_3_code 6 (some (.object "TextKeeper$Text")) :: w0
def k_M_makeBase : List Cond := .code y_M_makeBase prog_3_method_2_code 3 (some (.object "TextKeeper$Text")) :: w0
def k_M_makeNext : List Cond := .code y_M_makeNext prog_3_method_4_code 7 (some .boolean) :: w0
def k_M_obeyCommand : List Cond := .code y_M_obeyCommand prog_3_method_5_code 3 (some .boolean) :: w0
def k_M_readNumber : List Cond := .code y_M_readNumber prog_3_method_8_code 4 (some .int) :: w0
def k_W_init : List Cond := .code y_W_init prog_4_method_1_code 1 none :: w0
def k_W_digitsOf : List Cond := .code y_W_digitsOf prog_4_method_7_code 3 (some .int) :: w0
def k_W_pieceOf : List Cond := .code y_W_pieceOf prog_4_method_2_code 3 (some (.array .byte)) :: w0
def k_W_placeOfLongest : List Cond := .code y_W_placeOfLongest prog_4_method_4_code 7 (some .int) :: w0
def k_W_writeByte : List Cond := .code y_W_writeByte prog_4_method_8_code 2 none :: w0
def k_W_writeDifferences : List Cond := .code y_W_writeDifferences prog_4_method_3_code 7 none :: w0
def k_W_writeInsert : List Cond := .code y_W_writeInsert prog_4_method_5_code 5 none :: w0
def k_W_writeNumber : List Cond := .code y_W_writeNumber prog_4_method_6_code 4 none :: w0
def k_P_init : List Cond := .code y_P_init prog_5_method_1_code 1 none :: w0
def k_P_comeBack : List Cond := .code y_P_comeBack prog_5_method_3_code 1 none :: w0
def k_P_goAfter : List Cond := .code y_P_goAfter prog_5_method_2_code 2 none :: w0
def k_P_lastsFor : List Cond := .code y_P_lastsFor prog_5_method_4_code 2 (some .boolean) :: w0
def k_V_init : List Cond := .code y_V_init prog_6_method_1_code 4 none :: w0
def k_V_hasByte : List Cond := .code y_V_hasByte prog_6_method_2_code 2 (some .boolean) :: w0
def k_T_init : List Cond := .code y_T_init prog_7_method_1_code 1 none :: w0
def k_T_addByte : List Cond := .code y_T_addByte prog_7_method_4_code 2 none :: w0
def k_T_addInt : List Cond := .code y_T_addInt prog_7_method_5_code 3 none :: w0
def k_T_become : List Cond := .code y_T_become prog_7_method_7_code 2 none :: w0
def k_T_byteAt : List Cond := .code y_T_byteAt prog_7_method_2_code 2 (some .int) :: w0
def k_T_hasRoom : List Cond := .code y_T_hasRoom prog_7_method_3_code 2 (some .boolean) :: w0
def k_T_runBackWith : List Cond := .code y_T_runBackWith prog_7_method_10_code 5 (some .int) :: w0
def k_T_runWith : List Cond := .code y_T_runWith prog_7_method_9_code 6 (some .int) :: w0
def k_T_shorten : List Cond := .code y_T_shorten prog_7_method_6_code 2 (some .boolean) :: w0
def k_T_sum : List Cond := .code y_T_sum prog_7_method_8_code 3 (some .int) :: w0
def k_L_about : List Cond := .codeWith y_L_about method_12_code 5 (some .int) [(0, 10, 13, 47), (0, 10, 17, 49), (0, 10, 21, 13)] :: w0
def k_L_commit : List Cond := .codeWith y_L_commit method_6_code 5 (some .int) [(0, 10, 13, 13)] :: w0
def k_L_common : List Cond := .codeWith y_L_common method_17_code 7 (some .int) [(0, 14, 17, 13)] :: w0
def k_L_cutAfter : List Cond := .codeWith y_L_cutAfter method_19_code 4 (some .int) [(0, 16, 19, 13)] :: w0
def k_L_damage : List Cond := .codeWith y_L_damage method_15_code 7 (some .int) [(0, 21, 24, 13)] :: w0
def k_L_dropDocument : List Cond := .codeWith y_L_dropDocument method_11_code 4 (some .int) [(0, 16, 19, 13)] :: w0
def k_L_end : List Cond := .codeWith y_L_end method_4_code 4 (some .int) [(0, 16, 19, 13)] :: w0
def k_L_feed : List Cond := .codeWith y_L_feed method_3_code 8 (some .int) [(0, 23, 26, 13)] :: w0
def k_L_fetch : List Cond := .codeWith y_L_fetch method_7_code 5 (some .int) [(0, 10, 13, 13)] :: w0
def k_L_freeBlocks : List Cond := .codeWith y_L_freeBlocks method_18_code 3 (some .int) [(0, 8, 11, 13)] :: w0
def k_L_make : List Cond := .codeWith y_L_make method_5_code 3 (some .int) [(0, 8, 11, 13)] :: w0
def k_L_out : List Cond := .codeWith y_L_out method_8_code 4 (some .int) [(0, 9, 12, 13)] :: w0
def k_L_pieceByte : List Cond := .codeWith y_L_pieceByte method_14_code 6 (some .int) [(0, 12, 15, 13)] :: w0
def k_L_revision : List Cond := .codeWith y_L_revision method_13_code 6 (some .int) [(0, 12, 15, 47), (0, 12, 19, 49), (0, 12, 23, 13)] :: w0
def k_L_steps : List Cond := .codeWith y_L_steps method_9_code 3 (some .int) [(0, 8, 11, 13)] :: w0
def k_L_trim : List Cond := .codeWith y_L_trim method_10_code 5 (some .int) [(0, 17, 20, 13)] :: w0
def k_L_verify : List Cond := .codeWith y_L_verify method_16_code 4 (some .int) [(0, 9, 12, 13)] :: w0
def k_O_init : List Cond := .code y_O_init prog_9_method_1_code 2 none :: w0
def k_O_about : List Cond := .code y_O_about prog_9_method_33_code 3 (some .int) :: w0
def k_O_again : List Cond := .code y_O_again prog_9_method_20_code 5 (some .boolean) :: w0
def k_O_begins : List Cond := .code y_O_begins prog_9_method_10_code 4 (some .int) :: w0
def k_O_blocks : List Cond := .code y_O_blocks prog_9_method_11_code 1 (some .int) :: w0
def k_O_cleans : List Cond := .code y_O_cleans prog_9_method_15_code 5 none :: w0
def k_O_command : List Cond := .code y_O_command prog_9_method_18_code 5 (some .boolean) :: w0
def k_O_commit : List Cond := .code y_O_commit prog_9_method_27_code 7 (some .int) :: w0
def k_O_common : List Cond := .code y_O_common prog_9_method_38_code 8 (some .int) :: w0
def k_O_cutAfter : List Cond := .code y_O_cutAfter prog_9_method_40_code 2 (some .boolean) :: w0
def k_O_damage : List Cond := .code y_O_damage prog_9_method_36_code 6 (some .boolean) :: w0
def k_O_drop : List Cond := .code y_O_drop prog_9_method_13_code 5 none :: w0
def k_O_dropDocument : List Cond := .code y_O_dropDocument prog_9_method_32_code 2 (some .boolean) :: w0
def k_O_end : List Cond := .code y_O_end prog_9_method_6_code 2 (some .boolean) :: w0
def k_O_feed : List Cond := .code y_O_feed prog_9_method_5_code 8 (some .boolean) :: w0
def k_O_fetch : List Cond := .code y_O_fetch prog_9_method_28_code 4 (some .int) :: w0
def k_O_free : List Cond := .code y_O_free prog_9_method_12_code 3 (some .int) :: w0
def k_O_freeBlocks : List Cond := .code y_O_freeBlocks prog_9_method_39_code 1 (some .int) :: w0
def k_O_inserts : List Cond := .code y_O_inserts prog_9_method_23_code 4 none :: w0
def k_O_isAsked : List Cond := .code y_O_isAsked prog_9_method_8_code 3 (some .boolean) :: w0
def k_O_isDocument : List Cond := .code y_O_isDocument prog_9_method_7_code 2 (some .boolean) :: w0
def k_O_isDown : List Cond := .code y_O_isDown prog_9_method_42_code 1 (some .boolean) :: w0
def k_O_isUnder : List Cond := .code y_O_isUnder prog_9_method_14_code 3 (some .boolean) :: w0
def k_O_kept : List Cond := .code y_O_kept prog_9_method_9_code 3 (some .int) :: w0
def k_O_make : List Cond := .code y_O_make prog_9_method_16_code 1 (some .int) :: w0
def k_O_makes : List Cond := .code y_O_makes prog_9_method_19_code 3 (some .boolean) :: w0
def k_O_number : List Cond := .code y_O_number prog_9_method_17_code 3 (some .boolean) :: w0
def k_O_out : List Cond := .code y_O_out prog_9_method_29_code 2 (some .int) :: w0
def k_O_pieceByte : List Cond := .code y_O_pieceByte prog_9_method_35_code 5 (some .int) :: w0
def k_O_pieces : List Cond := .code y_O_pieces prog_9_method_25_code 7 none :: w0
def k_O_put : List Cond := .code y_O_put prog_9_method_21_code 2 none :: w0
def k_O_putNumber : List Cond := .code y_O_putNumber prog_9_method_22_code 3 none :: w0
def k_O_revision : List Cond := .code y_O_revision prog_9_method_34_code 5 (some .int) :: w0
def k_O_run : List Cond := .code y_O_run prog_9_method_24_code 4 (some .int) :: w0
def k_O_runs : List Cond := .code y_O_runs prog_9_method_3_code 2 (some .boolean) :: w0
def k_O_start : List Cond := .code y_O_start prog_9_method_41_code 2 (some .boolean) :: w0
def k_O_steps : List Cond := .code y_O_steps prog_9_method_30_code 1 (some .int) :: w0
def k_O_sum : List Cond := .code y_O_sum prog_9_method_26_code 5 (some .int) :: w0
def k_O_thrown : List Cond := .code y_O_thrown prog_9_method_2_code 1 (some .int) :: w0
def k_O_trim : List Cond := .code y_O_trim prog_9_method_31_code 3 (some .boolean) :: w0
def k_O_verify : List Cond := .code y_O_verify prog_9_method_37_code 3 (some .int) :: w0
def k_O_writes : List Cond := .code y_O_writes prog_9_method_4_code 2 (some .boolean) :: w0
def k_I_bitCount : List Cond := .code y_I_bitCount prog_14_method_49_code 1 (some .int) :: w0
def k_A_copyOf : List Cond := .code y_A_copyOf prog_19_method_121_code 3 (some (.array .byte)) :: w0
end
section
/-! Own rows beside the kit's: premises and ends of contracts in one word, calls of methods that read only, calls of static methods with an exception table, methods that throw, and their calls. -/
/-- the words of nest mates, of arrays of references: they are no words of the tables' kind, so a contract carries them -/
def nw_ok (U : State) : Prop := (∀ w ∈ nw0, va_Nw w U) ∧ ∀ C ∈ ao0, va_AO C U
def pc_R (D : va_G) (ws : va_W) (tys : List (ClassId × FieldType)) : State → Prop := fun U => va_P D vwCl ws U.heap ∧ va_K D vwCl tys U ∧ nw_ok U
def pc_E (D : va_G) (ws : va_W) (tys : List (ClassId × FieldType)) (sz : Nat) : State → Prop := fun U => U.heap.size = sz ∧ va_P D vwCl ws U.heap ∧ va_K D vwCl tys U ∧ va_D (fun _ => True) ws ∧ nw_ok U
def at_E (D : va_G) (A : Nat → Prop) (ws : va_W) (tys : List (ClassId × FieldType)) (t : State) : Prop := va_P D vwCl ws t.heap ∧ va_K D vwCl tys t ∧ va_D A ws
theorem nw_ok.warm {s U : State} (hW : s.WarmedH U.vm) (h : nw_ok s) : nw_ok U := by
  refine ⟨fun w hw => ?_, fun C hC => ?_⟩
  · have h1 := h.1 w hw
    have h2 := nw0_kind w hw
    cases w <;> first | exact va_Nw.warmF hW h1 | exact va_Nw.warmM hW h1 | exact va_Nw.warmD hW h1 | exact va_Nw.warmC hW h1 | (simp [nw_kind] at h2; done)
  · exact va_AO.moved hW.alike (h.2 C hC)
theorem nw_ok.same {s U : State} (hW : s.vm = U.vm) (h : nw_ok s) : nw_ok U :=
  ⟨fun w hw => va_Nw.same (nw0_tab w hw) hW (h.1 w hw), fun C hC => va_AO.moved (by rw [hW]; exact Vm.Alike.refl _) (h.2 C hC)⟩
section PRE
variable {s : State} {H : Heap} {C : String} {b : Addr} {As : List Value} {D : va_G} {ws : va_W} {tys : List (ClassId × FieldType)}
theorem prV_R (hP : va_P D vwCl ws H) (hK : va_K D vwCl tys s) (hN : nw_ok s) (hrec : ∃ cell : Cell, H[b]? = some cell ∧ cell.vm.isStatics = false ∧ s.vm.findClass C = some cell.cls) : PreV s H C b (va_Pc (.ref b :: As) (pc_R D ws tys)) As :=
  ⟨fun a U g mk q => ⟨q.1, q.2.1, va_K.moved (u := U) (U := U.calling g mk a) (Vm.Alike.refl U.vm) q.2.2.1, nw_ok.same (s := U) (U := U.calling g mk a) rfl q.2.2.2⟩, hrec, fun U hU hW => ⟨rfl, by rw [hU]; exact hP, va_K.moved hW.alike hK, hN.warm hW⟩⟩
theorem prS_R (hP : va_P D vwCl ws H) (hK : va_K D vwCl tys s) (hN : nw_ok s) : PreS s H (va_Pc As (pc_R D ws tys)) As :=
  ⟨fun a U g mk q => ⟨q.1, q.2.1, va_K.moved (u := U) (U := U.calling g mk a) (Vm.Alike.refl U.vm) q.2.2.1, nw_ok.same (s := U) (U := U.calling g mk a) rfl q.2.2.2⟩, fun U hU hW => ⟨rfl, by rw [hU]; exact hP, va_K.moved hW.alike hK, hN.warm hW⟩⟩
theorem prV_E {A : Nat → Prop} (hP : va_P D vwCl ws H) (hK : va_K D vwCl tys s) (hD : va_D A ws) (hN : nw_ok s) (hrec : ∃ cell : Cell, H[b]? = some cell ∧ cell.vm.isStatics = false ∧ s.vm.findClass C = some cell.cls) : PreV s H C b (va_Pc (.ref b :: As) (pc_E D ws tys H.size)) As :=
  ⟨fun a U g mk q => ⟨q.1, q.2.1, q.2.2.1, va_K.moved (u := U) (U := U.calling g mk a) (Vm.Alike.refl U.vm) q.2.2.2.1, q.2.2.2.2.1, nw_ok.same (s := U) (U := U.calling g mk a) rfl q.2.2.2.2.2⟩, hrec, fun U hU hW => ⟨rfl, by rw [hU], by rw [hU]; exact hP, va_K.moved hW.alike hK, hD.weaken (fun _ _ _ _ => trivial), hN.warm hW⟩⟩
theorem prS_E {A : Nat → Prop} (hP : va_P D vwCl ws H) (hK : va_K D vwCl tys s) (hD : va_D A ws) (hN : nw_ok s) : PreS s H (va_Pc As (pc_E D ws tys H.size)) As :=
  ⟨fun a U g mk q => ⟨q.1, q.2.1, q.2.2.1, va_K.moved (u := U) (U := U.calling g mk a) (Vm.Alike.refl U.vm) q.2.2.2.1, q.2.2.2.2.1, nw_ok.same (s := U) (U := U.calling g mk a) rfl q.2.2.2.2.2⟩, fun U hU hW => ⟨rfl, by rw [hU], by rw [hU]; exact hP, va_K.moved hW.alike hK, hD.weaken (fun _ _ _ _ => trivial), hN.warm hW⟩⟩
end PRE
section GD
theorem gd_ok {w : Cond} (h : w ∈ w0) : (w.onTables && w.keeps) = true ∨ ∃ ty, w = .arrayClass ty := (w0_good w h)
theorem gd_w0 : GoodIn w0 w0 := fun w h => ⟨h, gd_ok h⟩
theorem gd_I {y : MethodName} {cd : ByteArray} {mL : Nat} {rt : Option FieldType} (i : Nat) (h : w0[i]? = some (.code y cd mL rt)) : GoodIn w0 (.code y cd mL rt :: w0) := by
  intro w hw
  rcases List.mem_cons.mp hw with rfl | hw
  · exact ⟨List.mem_of_getElem? h, gd_ok (List.mem_of_getElem? h)⟩
  · exact ⟨hw, gd_ok hw⟩
theorem gd_V {own C : String} {idx : Nat} {y : MethodName} {cd : ByteArray} {mL : Nat} {rt : Option FieldType} (i1 i2 i3 i4 i5 : Nat) (h1 : w0[i1]? = some (.methodLink own idx y)) (h2 : w0[i2]? = some (.instanceMethod y)) (h3 : w0[i3]? = some (.selects C y y)) (h4 : w0[i4]? = some (.initialized C)) (h5 : w0[i5]? = some (.code y cd mL rt)) : GoodIn w0 (wsV own idx C y (.code y cd mL rt :: w0)) := by
  intro w hw
  unfold wsV at hw
  rcases List.mem_append.mp hw with hw | hw
  · have hm : w ∈ w0 := by
      simp only [List.mem_cons, List.not_mem_nil, or_false] at hw
      rcases hw with rfl | rfl | rfl | rfl
      · exact List.mem_of_getElem? h1
      · exact List.mem_of_getElem? h2
      · exact List.mem_of_getElem? h3
      · exact List.mem_of_getElem? h4
    exact ⟨hm, gd_ok hm⟩
  · exact gd_I i5 h5 w hw
end GD
section PS
variable {p : Program} {l : Launch} {e : Env} {R : Room} {s : State} {m : MethodId} {args : Array Value} {below : List Frame} {meth : Method} {c : Code} {H : Heap} {locs : List Loc} {cells slots : Nat} {Q : State → Prop}
variable {pc : Nat} {ls : Array Slot} {rest st0 : List Value} {a : Array Value}
theorem ps_i {post : Int32 → Prop} (hr : va_Run p l e R s m args below meth c H locs cells slots 0 0 (F0 m pc ls st0) rest (vp_Si post a) (fun _ => False)) (kk : ∀ r : Int32, post r → W p l e R s m args below meth c H locs cells slots Q (F0 m (pc + 3) ls (.int r :: rest))) : W p l e R s m args below meth c H locs cells slots Q (F0 m pc ls st0) := by
  intro T hT X
  obtain ⟨v, st₀, t, T', L, h0, X', hL, e1, -, ⟨r, hv, hp, hh⟩, st⟩ := hr T hT X
  cases hv
  obtain ⟨t2, a1, b1⟩ := kk r hp T' (by rw [e1, hh, h0]) (Stand.forget X' (fun q h => (hL q h).elim))
  exact ⟨t2, st t2 a1, b1⟩
theorem ps_q {post : Option Nat → Prop} (hr : va_Run p l e R s m args below meth c H locs cells slots 0 0 (F0 m pc ls st0) rest (va_Sq post a) (fun _ => False)) (kk : ∀ r : Option Nat, post r → W p l e R s m args below meth c H locs cells slots Q (F0 m (pc + 3) ls (va_rf r :: rest))) : W p l e R s m args below meth c H locs cells slots Q (F0 m pc ls st0) := by
  intro T hT X
  obtain ⟨v, st₀, t, T', L, h0, X', hL, e1, -, ⟨r, hv, hp, hh⟩, st⟩ := hr T hT X
  cases hv
  obtain ⟨t2, a1, b1⟩ := kk r hp T' (by rw [e1, hh, h0]) (Stand.forget X' (fun q h => (hL q h).elim))
  exact ⟨t2, st t2 a1, b1⟩
theorem ps_v {post : Unit → Prop} (hr : va_Run p l e R s m args below meth c H locs cells slots 0 0 (F0 m pc ls st0) rest (va_Sv post a) (fun _ => False)) (kk : W p l e R s m args below meth c H locs cells slots Q (F0 m (pc + 3) ls rest)) : W p l e R s m args below meth c H locs cells slots Q (F0 m pc ls st0) := by
  intro T hT X
  obtain ⟨v, st₀, t, T', L, h0, X', hL, e1, -, ⟨hv, hp, hh⟩, st⟩ := hr T hT X
  cases hv
  obtain ⟨t2, a1, b1⟩ := kk T' (by rw [e1, hh, h0]) (Stand.forget X' (fun q h => (hL q h).elim))
  exact ⟨t2, st t2 a1, b1⟩
end PS
/-! numbers -/
theorem x_nn {i : Int32} (h : ¬ i < 0) (h2 : ¬ (0 : Int32) ≤ i) : False := h2 (Int32.not_lt.mp h)
theorem x_in {x N : Int32} {n : Nat} (hN : N.toInt = n) (h1 : ¬ x < 0) (h2 : ¬ N ≤ x) : vp_in x n := by
  rw [vp_in_iff]
  have a := Int32.not_lt.mp h1
  have b := Int32.not_le.mp h2
  rw [Int32.le_iff_toInt_le] at a
  rw [Int32.lt_iff_toInt_lt] at b
  have z : (0 : Int32).toInt = 0 := by decide
  omega
theorem x_m1 {i : Int32} (h : ¬ i < 0) (h2 : ¬ (-1 : Int32) ≤ i) : False := by
  have a := Int32.not_lt.mp h
  rw [Int32.le_iff_toInt_le] at a h2
  have z : (0 : Int32).toInt = 0 := by decide
  have z1 : (-1 : Int32).toInt = -1 := by decide
  omega
theorem x_lt256 {k : Nat} (h : ¬ (256 : Int32) ≤ nI k) (hk : k ≤ 256) : k < 256 := by
  rcases Nat.lt_or_ge k 256 with q | q
  · exact q
  · exact absurd (show nI 256 ≤ nI k from nI_le q (by omega)) h
theorem x_geN {j N : Nat} (hN : N < 2 ^ 31) (hj : j ≤ N) (h : nI N ≤ nI j) : j = N := by
  have := (nI_leI hN (by omega)).mp h
  omega
theorem x_ltN {j N : Nat} (hN : N < 2 ^ 31) (hj : j ≤ N) (h : ¬ nI N ≤ nI j) : j < N := by
  rcases Nat.lt_or_ge j N with q | q
  · exact q
  · exact absurd (nI_le q (by omega)) h
section SW
abbrev CSW (R : Room) (s : State) (args : Array Value) (own : String) (index : Nat) (y : MethodName) (bytes : ByteArray) (maxL : Nat) (ret : Option FieldType) (hh : List (Nat × Nat × Nat × Nat)) (ws : List Cond) (rm : Room) (mc ms n : Nat) : Prop :=
  (rm.cells = mc ∧ rm.slots = ms ∧ rm.frames + 1 ≤ R.frames ∧ 8 + (maxL + 11) + rm.locals ≤ R.locals ∧ (∀ w ∈ ws, ∀ (a' : Array Value) (U : State), s.WarmedH U.vm → w.before a' U = true) ∧ Cond.codeWith y bytes maxL ret hh ∈ ws) ∧
  (Cond.codeWith y bytes maxL ret hh).before args s = true ∧ (Cond.initialized y.cls).before args s = true ∧ (y.cls ≠ "java/lang/invoke/MethodHandle" ∧ y.cls ≠ "java/lang/invoke/VarHandle") ∧ (∀ sig, parseMethodDescriptor y.desc = some sig → n = sig.parameters.length) ∧ (Cond.methodLink own index y).before args s = true ∧ (Cond.static y).before args s = true
theorem gd_W {y : MethodName} {cd : ByteArray} {mL : Nat} {rt : Option FieldType} {hh : List (Nat × Nat × Nat × Nat)} (i : Nat) (h : w0[i]? = some (.codeWith y cd mL rt hh)) : GoodIn w0 (.codeWith y cd mL rt hh :: w0) := by
  intro w hw
  rcases List.mem_cons.mp hw with rfl | hw
  · exact ⟨List.mem_of_getElem? h, gd_ok (List.mem_of_getElem? h)⟩
  · exact ⟨hw, gd_ok hw⟩
theorem csw_of {R : Room} {s : State} {args : Array Value} {own : String} {index maxL mc ms : Nat} {y : MethodName} {bytes : ByteArray} {ret : Option FieldType} {hh : List (Nat × Nat × Nat × Nat)} {rm : Room} (n : Nat) (ht : ∀ w ∈ w0, w.before args s = true) (i1 i2 i3 i4 : Nat) (h1 : w0[i1]? = some (.codeWith y bytes maxL ret hh)) (h2 : w0[i2]? = some (.methodLink own index y)) (h3 : w0[i3]? = some (.static y)) (h4 : w0[i4]? = some (.initialized y.cls)) (hrc : rm.cells = mc) (hrs : rm.slots = ms)
    (hd : y.cls ≠ "java/lang/invoke/MethodHandle" ∧ y.cls ≠ "java/lang/invoke/VarHandle" ∧ (parseMethodDescriptor y.desc).map (fun d => d.parameters.length) = some n) (hR : rm.frames + 1 ≤ R.frames ∧ 8 + (maxL + 11) + rm.locals ≤ R.locals) : CSW R s args own index y bytes maxL ret hh (.codeWith y bytes maxL ret hh :: w0) rm mc ms n := by
  refine ⟨⟨hrc, hrs, hR.1, hR.2, pay_in ht (gd_W i1 h1), List.mem_cons_self⟩, ht _ (List.mem_of_getElem? h1), ht _ (List.mem_of_getElem? h4), ⟨hd.1, hd.2.1⟩, fun sig h => ?_, ht _ (List.mem_of_getElem? h2), ht _ (List.mem_of_getElem? h3)⟩
  have h2 := hd.2.2
  rw [h] at h2
  exact (Option.some.inj h2).symm
variable {p : Program} {l : Launch} {e : Env} {R : Room} {s : State} {m : MethodId} {args : Array Value} {below : List Frame} {meth : Method} {c : Code} {H : Heap} {locs : List Loc} {cells slots : Nat}
theorem va_runSW {y : MethodName} {bytes cc : ByteArray} {maxL nL mc ms n index : Nat} {ret : Option FieldType} {hh : List (Nat × Nat × Nat × Nat)} {ws : List Cond} {rm : Room} {Pc : Array Value → State → Prop} {Qc : Array Value → State → Outcome → State → Prop} {free : Addr → Prop} {Ts : List Cond} {own : String} {As rest : List Value} {g : JFrame}
    (S : CallFix p m c cc nL s args Ts own) (hM : Met l y ws rm Pc Qc mc ms free) (cw : CSW R s args own index y bytes maxL ret hh ws rm mc ms n) (hp : PreS s H Pc As)
    (hg : g.method = m) (hn : As.length = n) (hsize : g.locals.size = nL) (hstack : g.stack = As.reverse ++ rest) (hW : 2 * g.monitorRoom + (rest.map fun v => v.category).sum ≤ 8) (hdg : decode cc g.pc = .ok (.invokestatic index, 3)) (hf : cells + mc ≤ R.cells ∧ slots + ms ≤ R.slots) :
    va_Run p l e R s m args below meth c H locs cells slots mc ms g rest (Qc As.toArray) (free) := by
  obtain ⟨⟨hrc, hrs, hfr, hlo, hws, hcw⟩, hcode, hini, hy, hlen, hl, hst⟩ := cw
  have hK : Back l R p e below s args y 3 8 (PreOf R mc ms Pc) (PostOf Qc mc ms free) := va_backW (hh := hh) (bytes := bytes) (maxL := maxL) (ret := ret) hM hp.1 hrc hrs hfr hlo hws hcw (fun a' U hW => word_at hW (Or.inl (by first | rfl | simp [Cond.onTables, Cond.keeps, Cond.steady])) hini)
  obtain ⟨hx, hb, hml, ho, -⟩ := S
  intro T hT X
  obtain ⟨mk, methM, cM, hnamed, hmethM, -, -, -, -, -, -, hsigM⟩ := Cond.codeWith_spec hcode
  have hstatic : methM.isStatic = true := Cond.static_spec hnamed hmethM hst
  obtain ⟨kP, hkP, -⟩ := className_of_methodNamed hnamed
  have hinitP : kP.init = .initialized := Cond.initialized_spec (findClass_of_methodNamed hnamed) hkP hini
  obtain ⟨vm₁, X₁, hstep₁⟩ := X.invokestatic hx ho hl hnamed hmethM hstatic hkP hinitP hy (g := g) hg (argsL := As) (rest := rest) (hn.trans (hlen _ hsigM)) hstack (by rw [hb]; exact hdg)
  obtain ⟨v, ⟨U', l2, c2, s2⟩, X', hpost, hsteps⟩ := hK m meth c ⟨T.setVm vm₁, locs, cells, slots⟩ { g with stack := rest } (.invokestatic index) mk As.toArray X₁ hg (hsize.trans hml.symm) (by rw [hb]; exact hdg) hW (X₁.named hnamed) ⟨hf.1, hf.2, hp.2 (T.setVm vm₁) hT X₁.warmed⟩
  obtain ⟨g', mk', t, L, e1, e2, hq, h1, hL, h2, h3⟩ := hpost
  dsimp only [Pt.U, Pt.locs, Pt.cells, Pt.slots] at X' e1 e2 h1 h2 h3 hsteps
  subst h1; subst h2; subst h3
  exact ⟨v, (T.setVm vm₁).calling g' mk' As.toArray, t, U', L, hT, X', hL, e1, e2, hq, fun target h => hstep₁ _ fun acts => by rw [doInvoke_state]; exact hsteps.trans h⟩
end SW
theorem x_fill {g : Nat → Int32} {j : Nat} (hj : j < 512) (h : ∀ i, i < j → g i = (-1)) : ∀ i, i < j + 1 → upd g (Int32.toNatClampNeg (nI j)) (vp_nar .short (-1)) i = (-1) := by
  intro i hi
  rw [nI_clamp (by omega)]
  by_cases e : i = j
  · subst e; rw [pk_us]; decide
  · rw [pk_un e]; exact h i (by omega)
theorem x_up0 {f : Nat → Int64} {x : Int64} : vp_updL f (Int32.toNatClampNeg 0) x 0 = x := by
  rw [sb_cl0]; exact if_pos rfl
theorem x_L6 {L : Nat} (hL : L ≤ 6) (h : ¬ (Int32.ofNat L - 6 : Int32) < 0) : L = 6 := by
  have q : ∀ L, L < 7 → ¬ (Int32.ofNat L - 6 : Int32) < 0 → L = 6 := by decide +kernel
  exact q L (by omega) h
theorem va_S.grow {A : Nat → Prop} {H0 H H1 : Heap} {locs : List Loc} (h : va_S A H0 H locs) (hz : H.size ≤ H1.size) (hk : ∀ q : Nat, q < H.size → H1[q]? = H[q]?) : va_S A H0 H1 locs :=
  ⟨Nat.le_trans h.1 hz, fun q h1 h2 => (hk q (Nat.lt_of_lt_of_le h1 h.1)).trans (h.2.1 q h1 h2), h.2.2⟩
end
section
/-! the mathematical values: bytes as they are stored, texts as lists of them -/
def nbb (x : Int32) : Int32 := x.toInt8.toInt32
def isB (x : Int32) : Prop := nbb x = x
theorem nbb_B (x : Int32) : isB (nbb x) := by
  unfold isB nbb
  exact pk_vb x
def bI (b : Bool) : Int32 := if b then 1 else 0
def tx (L : List Int32) (k : Nat) (f : Nat → Int32) : Prop := L.length = k ∧ (∀ j, j < k → f j = L.getD j 0) ∧ ∀ b ∈ L, isB b
theorem tx_nil (f : Nat → Int32) : tx [] 0 f := ⟨rfl, fun _ h => absurd h (Nat.not_lt_zero _), fun _ h => by cases h⟩
theorem tx_push {L : List Int32} {k : Nat} {f : Nat → Int32} {b : Int32} (h : tx L k f) (hb : isB b) : tx (L ++ [b]) (k + 1) (upd f k b) := by
  obtain ⟨h1, h2, h3⟩ := h
  refine ⟨by simp [h1], fun j hj => ?_, fun c hc => ?_⟩
  · by_cases e : j = k
    · subst e
      rw [pk_us]
      simp [List.getD, List.getElem?_append_right, h1]
    · rw [pk_un e, h2 j (by omega)]
      simp [List.getD, List.getElem?_append_left (show j < L.length by omega)]
  · rcases List.mem_append.mp hc with hc | hc
    · exact h3 c hc
    · rcases List.mem_singleton.mp hc with rfl
      exact hb
theorem tx_take {L : List Int32} {k n : Nat} {f : Nat → Int32} (h : tx L k f) (hn : n ≤ k) : tx (L.take n) n f := by
  obtain ⟨h1, h2, h3⟩ := h
  refine ⟨by simp [h1]; omega, fun j hj => ?_, fun c hc => h3 c (List.mem_of_mem_take hc)⟩
  rw [h2 j (by omega)]
  simp [List.getD, List.getElem?_take, hj]
theorem tx_cpy {L : List Int32} {k : Nat} {f g : Nat → Int32} (h : tx L k f) : tx L k (va_cpy f g 0 0 k) := by
  refine ⟨h.1, fun j hj => ?_, h.2.2⟩
  rw [pk_cpy_in (Nat.zero_le j) (by omega)]
  simpa using h.2.1 j hj
theorem tx_eq {L : List Int32} {k : Nat} {f g : Nat → Int32} (h : tx L k f) (e : ∀ j, j < k → g j = f j) : tx L k g := ⟨h.1, fun j hj => (e j hj).trans (h.2.1 j hj), h.2.2⟩
theorem tx_at {L : List Int32} {k : Nat} {f : Nat → Int32} (h : tx L k f) {j : Nat} (hj : j < k) : f j = L.getD j 0 := h.2.1 j hj
theorem tx_inB {L : List Int32} {k : Nat} {f : Nat → Int32} (h : tx L k f) {j : Nat} (hj : j < k) : isB (f j) := by
  rw [h.2.1 j hj]
  have : j < L.length := by rw [h.1]; exact hj
  apply h.2.2
  simp [List.getD, List.getElem?_eq_getElem this]
/-- a text's sum -/
def sumL (L : List Int32) : Int32 := L.foldl (fun s b => s * 31 + (b &&& 255) + 1) 0
theorem sumL_snoc (L : List Int32) (b : Int32) : sumL (L ++ [b]) = sumL L * 31 + (b &&& 255) + 1 := by
  simp [sumL, List.foldl_append]
theorem take_snoc {L : List Int32} {i : Nat} (h : i < L.length) : L.take (i + 1) = L.take i ++ [L.getD i 0] := by
  rw [List.take_succ]
  simp [List.getD, List.getElem?_eq_getElem h]
theorem sumL_take {L : List Int32} {i : Nat} (h : i < L.length) : sumL (L.take (i + 1)) = sumL (L.take i) * 31 + (L.getD i 0 &&& 255) + 1 := by
  rw [take_snoc h, sumL_snoc]
/-- how many bytes two lists have in common at their heads -/
def cpl : List Int32 → List Int32 → Nat
  | a :: x, b :: y => if a = b then cpl x y + 1 else 0
  | _, _ => 0
theorem cpl_ge : ∀ (n : Nat) (x y : List Int32), n ≤ x.length → n ≤ y.length → (∀ t, t < n → x.getD t 0 = y.getD t 0) → n ≤ cpl x y
  | 0, _, _, _, _, _ => Nat.zero_le _
  | n + 1, [], _, h, _, _ => absurd h (by simp)
  | n + 1, _ :: _, [], _, h, _ => absurd h (by simp)
  | n + 1, a :: x, b :: y, h1, h2, h3 => by
    have e : a = b := by simpa using h3 0 (Nat.succ_pos n)
    have := cpl_ge n x y (by simpa using h1) (by simpa using h2) (fun t ht => by simpa using h3 (t + 1) (by omega))
    simp only [cpl, e, if_true]
    omega
theorem cpl_le1 : ∀ (x y : List Int32), cpl x y ≤ x.length
  | [], _ => by simp [cpl]
  | _ :: _, [] => by simp [cpl]
  | a :: x, b :: y => by
    have := cpl_le1 x y
    simp only [cpl, List.length_cons]
    split <;> omega
theorem cpl_le2 : ∀ (x y : List Int32), cpl x y ≤ y.length
  | [], _ => by simp [cpl]
  | _ :: _, [] => by simp [cpl]
  | a :: x, b :: y => by
    have := cpl_le2 x y
    simp only [cpl, List.length_cons]
    split <;> omega
theorem cpl_eq : ∀ (x y : List Int32) (t : Nat), t < cpl x y → x.getD t 0 = y.getD t 0
  | [], _, _, h => absurd h (by simp [cpl])
  | _ :: _, [], _, h => absurd h (by simp [cpl])
  | a :: x, b :: y, t, h => by
    simp only [cpl] at h
    split at h
    · rename_i e
      match t with
      | 0 => simpa using e
      | t + 1 => simpa using cpl_eq x y t (by omega)
    · exact absurd h (Nat.not_lt_zero _)
/-- n is it, where it ends: all ahead are equal, and an end or a difference is there -/
theorem cpl_is {x y : List Int32} {n : Nat} (h1 : n ≤ x.length) (h2 : n ≤ y.length) (h3 : ∀ t, t < n → x.getD t 0 = y.getD t 0) (h4 : n = x.length ∨ n = y.length ∨ x.getD n 0 ≠ y.getD n 0) : cpl x y = n := by
  have a := cpl_ge n x y h1 h2 h3
  have b := cpl_le1 x y
  have c := cpl_le2 x y
  rcases Nat.lt_or_ge n (cpl x y) with q | q
  · exfalso
    rcases h4 with h4 | h4 | h4
    · omega
    · omega
    · exact h4 (cpl_eq x y n q)
  · omega
theorem getD_drop (L : List Int32) (i t : Nat) : (L.drop i).getD t 0 = L.getD (i + t) 0 := by
  simp [List.getD, List.getElem?_drop]
/-- the byte that fed lays for an int: the q-th from above -/
def fb (v : Int32) (q : Nat) : Int32 := nbb (v >>> (nI (24 - 8 * q) &&& 31))
def fb4 (v : Int32) : List Int32 := [fb v 0, fb v 1, fb v 2, fb v 3]
/-- the byte at a place, or none -/
def bAt (L : List Int32) (i : Int32) : Int32 := if i < 0 ∨ nI L.length ≤ i then (-1) else L.getD i.toNatClampNeg 0 &&& 255
theorem x_ltK {x : Int32} {k : Nat} (h1 : ¬ x < 0) (h2 : ¬ nI k ≤ x) : x.toNatClampNeg < k := by
  obtain ⟨j, hj, rfl⟩ := nI_of h1
  rw [nI_clamp hj]
  rcases Nat.lt_or_ge j k with q | q
  · exact q
  · exact absurd (nI_le q hj) h2
theorem x_inK {x : Int32} {k n : Nat} (hk : k ≤ n) (hn : n < 2 ^ 31) (h1 : ¬ x < 0) (h2 : ¬ nI k ≤ x) : vp_in x n := by
  obtain ⟨j, hj, rfl⟩ := nI_of h1
  have := x_ltK h1 h2
  rw [nI_clamp hj] at this
  exact vp_in_nI (by omega) hn
theorem x_min {a b : Nat} (ha : a < 2 ^ 31) (hb : b < 2 ^ 31) : (if nI b < nI a then nI b else nI a) = nI (min a b) := by
  by_cases h : b < a
  · rw [if_pos ((nI_ltI hb ha).mpr h), Nat.min_eq_right (by omega)]
  · rw [if_neg (fun q => h ((nI_ltI hb ha).mp q)), Nat.min_eq_left (by omega)]
theorem fits_B {b : Int32} (h : isB b) : fits .byte (.int b) = true := by
  rw [← h]
  exact pk_fb b
end
section
theorem gd_S {own : String} {idx : Nat} {y : MethodName} {cd : ByteArray} {mL : Nat} {rt : Option FieldType} (i1 i2 i3 i4 : Nat) (h1 : w0[i1]? = some (.methodLink own idx y)) (h2 : w0[i2]? = some (.static y)) (h3 : w0[i3]? = some (.initialized y.cls)) (h4 : w0[i4]? = some (.code y cd mL rt)) : GoodIn w0 (va_wsS own idx y (.code y cd mL rt :: w0)) := by
  intro w hw
  unfold va_wsS at hw
  rcases List.mem_append.mp hw with hw | hw
  · have hm : w ∈ w0 := by
      simp only [List.mem_cons, List.not_mem_nil, or_false] at hw
      rcases hw with rfl | rfl | rfl
      · exact List.mem_of_getElem? h1
      · exact List.mem_of_getElem? h2
      · exact List.mem_of_getElem? h3
    exact ⟨hm, gd_ok hm⟩
  · exact gd_I i4 h4 w hw
def dgt (n : Nat) : Nat := if n < 128 then 1 else 2
def encN (n : Nat) : List Int32 := if n < 128 then [nbb (nI n)] else [nbb (nI (n % 128 + 128)), nbb (nI (n / 128))]
theorem encN_len (n : Nat) : (encN n).length = dgt n := by
  unfold encN dgt
  split <;> rfl
theorem dgt_le (n : Nat) : 1 ≤ dgt n ∧ dgt n ≤ 2 := by
  unfold dgt
  split <;> omega
theorem encN_B (n : Nat) : ∀ b ∈ encN n, isB b := by
  intro b hb
  unfold encN at hb
  split at hb
  · rcases List.mem_singleton.mp hb with rfl; exact nbb_B _
  · simp only [List.mem_cons, List.not_mem_nil, or_false] at hb
    rcases hb with rfl | rfl <;> exact nbb_B _
def insE (L : List Int32) (a b : Nat) : List Int32 := if a < b then encN (2 * (b - a)) ++ (L.drop a).take (b - a) else []
theorem nbb_and (b : Int32) : nbb (b &&& 255) = nbb b := by
  unfold nbb
  congr 1
  apply Int8.toBitVec_inj.mp
  simp
  exact BitVec.and_allOnes
theorem x_dg {n : Nat} {x : Int32} (e : x = nI (dgt n) + (-1)) : x ≤ 1 := by
  rw [e]
  unfold dgt
  split <;> decide
theorem x_en1 {n q : Nat} {P : List Int32} {g : Nat → Int32} (c : nI (dgt n) ≤ 1) (h : tx (P ++ [nbb (nI n)]) (q + 1) g) : q + 1 = q + dgt n ∧ tx (P ++ encN n) (q + 1) g := by
  have h1 : n < 128 := by
    rcases Nat.lt_or_ge n 128 with z | z
    · exact z
    · rw [dgt, if_neg (by omega)] at c
      exact absurd c (by decide)
  rw [dgt, encN, if_pos h1, if_pos h1]
  exact ⟨rfl, h⟩
theorem x_en2 {n q : Nat} {P : List Int32} {g : Nat → Int32} (c : ¬ nI (dgt n) ≤ 1) (h : tx (P ++ [nbb (nI (n % 128 + 128))] ++ [nbb (nI (n / 128))]) (q + 1 + 1) g) : q + 1 + 1 = q + dgt n ∧ tx (P ++ encN n) (q + 1 + 1) g := by
  have h1 : ¬ n < 128 := by
    intro z
    rw [dgt, if_pos z] at c
    exact c (by decide)
  rw [dgt, encN, if_neg h1, if_neg h1]
  refine ⟨rfl, ?_⟩
  simpa using h
theorem nbb_at {L : List Int32} {k : Nat} {f : Nat → Int32} (h : tx L k f) {j : Nat} (hj : j < k) (h31 : j < 2 ^ 31) (hk : k < 2 ^ 31) : nbb (bAt L (nI j)) = L.getD j 0 := by
  rw [bAt, if_neg, nI_clamp h31, nbb_and]
  · have := tx_inB h hj
    rw [tx_at h hj] at this
    exact this
  · rw [h.1]
    intro q
    rcases q with q | q
    · exact nI_pos h31 q
    · exact nI_ge hj hk q
theorem take_drop_snoc {L : List Int32} {a j : Nat} (ha : a ≤ j) (hj : j < L.length) : (L.drop a).take (j + 1 - a) = (L.drop a).take (j - a) ++ [L.getD j 0] := by
  have e : j + 1 - a = (j - a) + 1 := by omega
  rw [e, take_snoc (by rw [List.length_drop]; omega), getD_drop]
  congr 3
  omega
theorem x_ins {L P : List Int32} {k a j q : Nat} {f g : Nat → Int32} (h : tx L k f) (hk : k ≤ 256) (ha : a ≤ j) (hj : j < k) (hu : tx (P ++ (L.drop a).take (j - a) ++ [nbb (bAt L (nI j))]) q g) : tx (P ++ (L.drop a).take (j + 1 - a)) q g := by
  rw [nbb_at h hj (by omega) (by omega)] at hu
  rw [take_drop_snoc ha (by rw [h.1]; exact hj), ← List.append_assoc]
  exact hu
theorem x_insF {L P : List Int32} {a b q : Nat} {g : Nat → Int32} (c : ¬ nI a < nI b) (ha : a < 2 ^ 31) (hb : b < 2 ^ 31) (h : tx P q g) : q = q + (insE L a b).length ∧ tx (P ++ insE L a b) q g := by
  have h1 : ¬ a < b := fun z => c ((nI_ltI ha hb).mpr z)
  rw [insE, if_neg h1, List.append_nil]
  exact ⟨rfl, h⟩
theorem x_insT {L P : List Int32} {a b q q2 : Nat} {g : Nat → Int32} (hab : a < b) (hb : b ≤ L.length) (e : q2 = q + dgt (2 * (b - a))) (h : tx ((P ++ encN (2 * (b - a))) ++ (L.drop a).take (b - a)) (q2 + (b - a)) g) : q2 + (b - a) = q + (insE L a b).length ∧ tx (P ++ insE L a b) (q2 + (b - a)) g := by
  rw [insE, if_pos hab]
  constructor
  · rw [List.length_append, encN_len, List.length_take, List.length_drop, Nat.min_eq_left (by omega)]
    omega
  · rw [← List.append_assoc]
    exact h
def bst (L : List Int32) (i : Nat) (M : List Int32) : Nat → Nat × Nat
  | 0 => (0, 0)
  | j + 1 => if (bst L i M j).1 < cpl (L.drop i) (M.drop j) then (cpl (L.drop i) (M.drop j), j) else bst L i M j
theorem bst_gt {L M : List Int32} {i j : Nat} (h : ¬ cpl (L.drop i) (M.drop j) ≤ (bst L i M j).1) : bst L i M (j + 1) = (cpl (L.drop i) (M.drop j), j) := by
  rw [bst, if_pos (by omega)]
theorem bst_le {L M : List Int32} {i j : Nat} (h : cpl (L.drop i) (M.drop j) ≤ (bst L i M j).1) : bst L i M (j + 1) = bst L i M j := by
  rw [bst, if_neg (by omega)]
theorem bst_le1 (L : List Int32) (i : Nat) (M : List Int32) : ∀ j, (bst L i M j).1 ≤ L.length - i
  | 0 => by simp [bst]
  | j + 1 => by
    have h1 := bst_le1 L i M j
    have h2 := cpl_le1 (L.drop i) (M.drop j)
    rw [List.length_drop] at h2
    rw [bst]
    split
    · exact h2
    · exact h1
theorem bst_lt (L : List Int32) (i : Nat) (M : List Int32) : ∀ j, (bst L i M j).2 ≤ j ∧ (0 < (bst L i M j).1 → (bst L i M j).2 < j)
  | 0 => by simp [bst]
  | j + 1 => by
    have h1 := bst_lt L i M j
    rw [bst]
    split
    · exact ⟨Nat.le_succ j, fun _ => Nat.lt_succ_self j⟩
    · exact ⟨by omega, fun z => by have := h1.2 z; omega⟩
theorem bst_ge (L : List Int32) (i : Nat) (M : List Int32) : ∀ j t, t < j → cpl (L.drop i) (M.drop t) ≤ (bst L i M j).1
  | 0, t, h => absurd h (Nat.not_lt_zero t)
  | j + 1, t, h => by
    rw [bst]
    rcases Nat.lt_or_ge t j with q | q
    · have := bst_ge L i M j t q
      split
      · simp only; omega
      · exact this
    · obtain rfl : t = j := by omega
      split
      · exact Nat.le_refl _
      · omega
theorem bst_is (L : List Int32) (i : Nat) (M : List Int32) : ∀ j, 0 < (bst L i M j).1 → (bst L i M j).1 = cpl (L.drop i) (M.drop (bst L i M j).2)
  | 0, h => absurd h (by simp [bst])
  | j + 1, h => by
    rw [bst] at h ⊢
    split
    · rfl
    · rename_i z
      rw [if_neg z] at h
      exact bst_is L i M j h
theorem bst_run (L : List Int32) (i : Nat) (M : List Int32) : cpl (L.drop i) (M.drop (bst L i M M.length).2) = (bst L i M M.length).1 := by
  rcases Nat.eq_zero_or_pos (bst L i M M.length).1 with z | z
  · rcases Nat.eq_zero_or_pos M.length with y | y
    · have : M = [] := List.eq_nil_of_length_eq_zero y
      subst this
      rw [z]
      have := cpl_le2 (L.drop i) (([] : List Int32).drop (bst L i [] ([] : List Int32).length).2)
      simp at this ⊢
      omega
    · have h1 := (bst_lt L i M M.length).1
      rcases Nat.lt_or_ge (bst L i M M.length).2 M.length with q | q
      · have := bst_ge L i M M.length _ q
        omega
      · have h2 := cpl_le2 (L.drop i) (M.drop (bst L i M M.length).2)
        rw [List.length_drop] at h2
        omega
  · exact (bst_is L i M M.length z).symm
theorem x_dg2 {n : Nat} (c : ¬ nI (dgt n) ≤ 1) : dgt n = 2 := by
  unfold dgt at c ⊢
  split
  · rename_i z
    rw [if_pos z] at c
    exact absurd (by decide) c
  · rfl
theorem dgt_ins (m : Nat) : 1 ≤ m → dgt (2 * m) ≤ m := by
  intro h
  unfold dgt
  split <;> omega
theorem insE_len {L : List Int32} {a b : Nat} (hab : a ≤ b) (hb : b ≤ L.length) : (insE L a b).length ≤ 2 * (b - a) := by
  unfold insE
  split
  · have := dgt_ins (b - a) (by omega)
    rw [List.length_append, encN_len, List.length_take, List.length_drop, Nat.min_eq_left (by omega)]
    omega
  · exact Nat.zero_le _
def dif (L M : List Int32) : Nat → Nat → Nat → List Int32
  | 0, _, nw => insE L nw L.length
  | n + 1, i, nw => if i < L.length then (if 4 ≤ (bst L i M M.length).1 then insE L nw i ++ (encN (2 * (bst L i M M.length).1 + 1) ++ (encN (bst L i M M.length).2 ++ dif L M n (i + (bst L i M M.length).1) (i + (bst L i M M.length).1))) else dif L M n (i + 1) nw) else insE L nw L.length
theorem dif_skip {L M : List Int32} {m n i nw : Nat} (e : M.length = m) (hi : i < L.length) (h : ¬ 4 ≤ cpl (L.drop i) (M.drop (bst L i M m).2)) : dif L M (n + 1) i nw = dif L M n (i + 1) nw := by
  subst e
  rw [bst_run] at h
  rw [dif, if_pos hi, if_neg h]
theorem dif_copy {L M : List Int32} {m n i nw : Nat} (e : M.length = m) (hi : i < L.length) (h : 4 ≤ cpl (L.drop i) (M.drop (bst L i M m).2)) : dif L M (n + 1) i nw = insE L nw i ++ (encN (2 * cpl (L.drop i) (M.drop (bst L i M m).2) + 1) ++ (encN (bst L i M m).2 ++ dif L M n (i + cpl (L.drop i) (M.drop (bst L i M m).2)) (i + cpl (L.drop i) (M.drop (bst L i M m).2)))) := by
  subst e
  rw [bst_run] at h ⊢
  rw [dif, if_pos hi, if_pos h]
theorem dif_end {L M : List Int32} {n i nw : Nat} (hi : ¬ i < L.length) : dif L M n i nw = insE L nw L.length := by
  cases n with
  | zero => rfl
  | succ n => rw [dif, if_neg hi]
theorem x_difE {L M P D : List Int32} {k nw q q2 F : Nat} {g : Nat → Int32} (e : L.length = k) (h0 : nw ≤ k) (h2 : q ≤ 2 * nw) (hk : k ≤ 256) (h4 : P ++ dif L M F k nw = D) (u0 : q2 = q + (insE L nw k).length) (u1 : tx (P ++ insE L nw k) q2 g) : q2 ≤ 512 ∧ tx D q2 g := by
  subst e
  rw [dif_end (Nat.lt_irrefl _)] at h4
  rw [h4] at u1
  have := insE_len (L := L) h0 (Nat.le_refl _)
  exact ⟨by omega, u1⟩
theorem insE_len0 {L : List Int32} {k : Nat} (e : L.length = k) : (insE L 0 k).length ≤ dgt (2 * k) + k := by
  subst e
  unfold insE
  split
  · rw [List.length_append, encN_len, List.length_take, List.length_drop, Nat.sub_zero, Nat.min_self]
    exact Nat.le_refl _
  · exact Nat.zero_le _
def pce (L M : List Int32) : List Int32 := if (dif L M L.length 0 0).length ≤ dgt (2 * L.length) + L.length then dif L M L.length 0 0 else insE L 0 L.length
theorem x_pce1 {L M : List Int32} {k n : Nat} {f : Nat → Int32} (e : L.length = k) (h : (dif L M k 0 0).length ≤ dgt (2 * k) + k) (u : tx (dif L M k 0 0) n f) : tx (pce L M) n f := by
  subst e
  rw [pce, if_pos h]
  exact u
theorem x_pce2 {L M : List Int32} {k n : Nat} {f : Nat → Int32} (e : L.length = k) (h : ¬ (dif L M k 0 0).length ≤ dgt (2 * k) + k) (u : tx ([] ++ insE L 0 k) n f) : tx (pce L M) n f := by
  subst e
  rw [pce, if_neg h]
  exact u
theorem y_en1 {n q : Nat} {P : List Int32} {g : Nat → Int32} (hn : n < 2 ^ 31) (c : nI n ≤ 127) (h : tx (P ++ [nbb (nI n)]) (q + 1) g) : q + 1 = q + dgt n ∧ tx (P ++ encN n) (q + 1) g := by
  have h1 : n ≤ 127 := (nI_leI hn (by decide)).mp (show nI n ≤ nI 127 from c)
  rw [dgt, encN, if_pos (by omega), if_pos (by omega)]
  exact ⟨rfl, h⟩
theorem y_en2 {n q : Nat} {P : List Int32} {g : Nat → Int32} (hn : n < 2 ^ 31) (c : ¬ nI n ≤ 127) (h : tx (P ++ [nbb (nI (n % 128 + 128))] ++ [nbb (nI (n / 128))]) (q + 1 + 1) g) : q + 1 + 1 = q + dgt n ∧ tx (P ++ encN n) (q + 1 + 1) g := by
  have h1 : ¬ n < 128 := fun z => c (show nI n ≤ nI 127 from nI_le (by omega) (by decide))
  rw [dgt, encN, if_neg h1, if_neg h1]
  refine ⟨rfl, ?_⟩
  simpa using h
theorem y_ins {L P : List Int32} {k a j q : Nat} {x : Int32} {f g : Nat → Int32} (h : tx L k f) (hk : k ≤ 256) (ha : a ≤ j) (hj : j < k) (e : x = f (Int32.toNatClampNeg (nI j))) (hu : tx (P ++ (L.drop a).take (j - a) ++ [nbb x]) q g) : tx (P ++ (L.drop a).take (j + 1 - a)) q g := by
  rw [nI_clamp (by omega)] at e
  rw [e, show nbb (f j) = f j from tx_inB h hj, tx_at h hj] at hu
  rw [take_drop_snoc ha (by rw [h.1]; exact hj), ← List.append_assoc]
  exact hu
theorem y_insF {L P : List Int32} {a b q : Nat} {g : Nat → Int32} (c : nI b ≤ nI a) (ha : a < 2 ^ 31) (hb : b < 2 ^ 31) (h : tx P q g) : q = q + (insE L a b).length ∧ tx (P ++ insE L a b) q g := by
  have h1 := (nI_leI hb ha).mp c
  rw [insE, if_neg (by omega), List.append_nil]
  exact ⟨rfl, h⟩
def oneE (k : Nat) : Nat := if k = 0 then 0 else dgt (2 * k) + k
theorem insE_0 (L : List Int32) : (insE L 0 L.length).length = oneE L.length := by
  unfold insE oneE
  split
  · rw [if_neg (by omega), List.length_append, encN_len, List.length_take, List.length_drop, Nat.sub_zero, Nat.min_self]
  · rw [if_pos (by omega)]; rfl
theorem dif_0 (L M : List Int32) (h : L.length = 0) : (dif L M L.length 0 0).length = 0 := by
  rw [dif_end (by omega), h, insE, if_neg (by omega)]; rfl
theorem y_pce1 {L M : List Int32} {k n : Nat} {f : Nat → Int32} (e : L.length = k) (h : (dif L M k 0 0).length ≤ oneE k) (u : tx (dif L M k 0 0) n f) : tx (pce L M) n f := by
  subst e
  rw [pce, if_pos]
  · exact u
  · refine Nat.le_trans h ?_
    unfold oneE
    split
    · exact Nat.zero_le _
    · exact Nat.le_refl _
theorem y_pce2 {L M : List Int32} {k n : Nat} {f : Nat → Int32} (e : L.length = k) (h : ¬ (dif L M k 0 0).length ≤ oneE k) (u : tx ([] ++ insE L 0 k) n f) : tx (pce L M) n f := by
  subst e
  rw [pce, if_neg]
  · exact u
  · intro z
    apply h
    unfold oneE
    split
    · next h0 => rw [dif_0 L M h0]; exact Nat.le_refl _
    · exact z
theorem dif_skip1 {L M : List Int32} {m n i nw : Nat} (e : M.length = m) (hi : i < L.length) (h : ¬ 4 ≤ (bst L i M m).1) : dif L M (n + 1) i nw = dif L M n (i + 1) nw := by
  subst e
  rw [dif, if_pos hi, if_neg h]
theorem dif_copy1 {L M : List Int32} {m n i nw : Nat} (e : M.length = m) (hi : i < L.length) (h : 4 ≤ (bst L i M m).1) : dif L M (n + 1) i nw = insE L nw i ++ (encN (2 * (bst L i M m).1 + 1) ++ (encN (bst L i M m).2 ++ dif L M n (i + (bst L i M m).1) (i + (bst L i M m).1))) := by
  subst e
  rw [dif, if_pos hi, if_pos h]
theorem oneE_1 {k : Nat} (h : k ≠ 0) (h2 : k < 64) : oneE k = k + 1 := by
  unfold oneE dgt
  rw [if_neg h, if_pos (by omega)]
  omega
theorem oneE_2 {k : Nat} (h2 : ¬ k < 64) : oneE k = k + 2 := by
  unfold oneE dgt
  rw [if_neg (by omega), if_neg (by omega)]
  omega
theorem oneE_le (k : Nat) : oneE k ≤ k + 2 := by
  unfold oneE dgt
  split
  · omega
  · split <;> omega
end
section
theorem gd_Im {y : MethodName} {cd : ByteArray} {mL : Nat} {rt : Option FieldType} (h : Cond.code y cd mL rt ∈ w0) : GoodIn w0 (.code y cd mL rt :: w0) := by
  obtain ⟨i, e⟩ := List.getElem?_of_mem h
  exact gd_I i e
theorem gd_Vm {own C : String} {idx : Nat} {y : MethodName} {cd : ByteArray} {mL : Nat} {rt : Option FieldType} (h1 : Cond.methodLink own idx y ∈ w0) (h2 : Cond.instanceMethod y ∈ w0) (h3 : Cond.selects C y y ∈ w0) (h4 : Cond.initialized C ∈ w0) (h5 : Cond.code y cd mL rt ∈ w0) : GoodIn w0 (wsV own idx C y (.code y cd mL rt :: w0)) := by
  obtain ⟨i1, e1⟩ := List.getElem?_of_mem h1
  obtain ⟨i2, e2⟩ := List.getElem?_of_mem h2
  obtain ⟨i3, e3⟩ := List.getElem?_of_mem h3
  obtain ⟨i4, e4⟩ := List.getElem?_of_mem h4
  obtain ⟨i5, e5⟩ := List.getElem?_of_mem h5
  exact gd_V i1 i2 i3 i4 i5 e1 e2 e3 e4 e5
end
