/** The sentences of "Terms" on what is kept, on blocks, on power, and on the constants. */
final class KeptAndPowerSentences extends Asking {
    /** Calls that write, as they stand once document 0 has the revisions 0 and 1. */
    private static final int[][] WRITING = {{Calls.MAKE}, {Calls.COMMIT, 0, 9}, {Calls.TRIM, 0, 1}, {Calls.DROP, 0}};

    KeptAndPowerSentences(Checks checks) {
        super(checks);
    }

    @Sentence("WHAT IS KEPT. A document's revisions from its FIRST (0 at first) to its NEWEST can be asked for")
    void terms_fromTheFirstToTheNewestCanBeAskedFor() {
        beginWithRevisionsOf20Bytes(10);
        ask(0, Calls.ABOUT, 0, 0);
        asksFrom(0, 9);
        ask(true, Calls.TRIM, 0, 4);
        asksFrom(4, 9);
        ask(10, Calls.COMMIT, 0, 1);
        ask(NONE, Calls.FETCH, 0, 3);
        ask(0, Calls.FETCH, 0, 10);
        ask(NONE, Calls.FETCH, 0, 11);
        ask(true, Calls.TRIM, 0, 9);
        asksFrom(9, 9);
    }

    private void asksFrom(int first, int newestOf20Bytes) {
        for (int r = -1; r <= newestOf20Bytes; r++) {
            ask(r < first ? NONE : 20, Calls.FETCH, 0, r);
        }
        ask(first, Calls.ABOUT, 0, 0);
    }

    @Sentence("the pieces of these are kept")
    void terms_piecesOfThoseThatCanBeAskedForAreKept() {
        beginWithRevisionsOf20Bytes(8);
        ask(true, Calls.TRIM, 0, 5);
        for (int r = 5; r < 8; r++) {
            ask(21, Calls.REVISION, 0, r, 0);
            ask(40, Calls.PIECE_BYTE, 0, r, 0);
            ask(true, Calls.DAMAGE, 0, r, 0, 0);
        }
    }

    @Sentence("and of those from which they are made")
    void terms_piecesFromWhichTheyAreMadeAreKept() {
        beginWithRevisionsOf20Bytes(8);
        ask(true, Calls.TRIM, 0, 7);
        // 7 is made from 6, that from 4, that from 0.
        for (int r : new int[] {0, 4, 6, 7}) {
            ask(21, Calls.REVISION, 0, r, 0);
            ask(40, Calls.PIECE_BYTE, 0, r, 0);
            ask(true, Calls.DAMAGE, 0, r, 0, 0);
        }
        ask(512 - 4, Calls.FREE);
        textIs(0, 7, "\0\0\0\7\0\0\0\7\0\0\0\7\0\0\0\7\0\0\0\7");
    }

    @Sentence("no others.")
    void terms_noOtherPiecesAreKept() {
        beginWithRevisionsOf20Bytes(8);
        ask(true, Calls.TRIM, 0, 7);
        for (int r : new int[] {1, 2, 3, 5}) {
            ask(NO_SUCH, Calls.REVISION, 0, r, 0);
            ask(NO_SUCH, Calls.REVISION, 0, r, 2);
            ask(NONE, Calls.PIECE_BYTE, 0, r, 0);
            ask(false, Calls.DAMAGE, 0, r, 0, 1);
        }
        ask(8, Calls.COMMIT, 0, 1);
        ask(true, Calls.TRIM, 0, 8);
        for (int r = 1; r < 8; r++) {
            ask(NO_SUCH, Calls.REVISION, 0, r, 0);
        }
        ask(21, Calls.REVISION, 0, 0, 0);
        ask(511, Calls.FREE);
    }

    /** Every first revision there can be, against the bases counted one by one. */
    @Sentence("no others.")
    void terms_keptAfterCuttingOffAtEachOf64() {
        for (int first = 0; first < 64; first++) {
            beginWithRevisionsOf20Bytes(64);
            ask(true, Calls.TRIM, 0, first);
            for (int r = 0; r < 64; r++) {
                ask(isNeeded(r, first) ? 21 : NO_SUCH, Calls.REVISION, 0, r, 0);
            }
        }
    }

    private static boolean isNeeded(int r, int first) {
        for (int from = first; from < 64; from++) {
            int k = from;
            while (k > r) {
                k -= Integer.lowestOneBit(k);
            }
            if (k == r) {
                return true;
            }
        }
        return false;
    }

    /** How many bytes a text of one INSERT has whose piece has so many. */
    private static int bytesOfText(int bytesOfPiece) {
        return bytesOfPiece == 0 ? 0 : bytesOfPiece <= 64 ? bytesOfPiece - 1 : bytesOfPiece - 2;
    }

    private void takes(int blocks, int bytesOfPiece) {
        beginWithDocument();
        commitText(0, run('a', bytesOfText(bytesOfPiece)));
        ask(bytesOfPiece, Calls.REVISION, 0, 0, 0);
        ask(512 - blocks, Calls.FREE);
    }

    @Sentence("A piece of b bytes takes DIV(b + 31, 32) BLOCKS of 512 (DIV cuts).")
    void terms_blocksAtEachMultipleOf32Bytes() {
        takes(0, 0);
        takes(1, 2);
        takes(1, 31);
        takes(1, 32);
        takes(2, 33);
        takes(2, 63);
        takes(2, 64);
        takes(3, 66);
        for (int blocks = 3; blocks <= 8; blocks++) {
            takes(blocks, 32 * blocks - 1);
            takes(blocks, 32 * blocks);
            takes(blocks + 1, 32 * blocks + 1);
        }
        takes(9, 258);
    }

    @Sentence("A piece of b bytes takes DIV(b + 31, 32) BLOCKS of 512 (DIV cuts).")
    void terms_noTwoPiecesShareABlock() {
        beginWithDocument();
        ask(1, Calls.MAKE);
        for (int r = 0; r < 10; r++) {
            commitText(r % 2, r / 2, "a" + r);
        }
        ask(502, Calls.FREE);
    }

    @Sentence("POWER. Making a document, cutting off, dropping take one WRITE")
    void terms_makingTakesOneWrite() {
        ask(true, Calls.CUT, 1);
        ask(0, Calls.MAKE);
        ask(DOWN, Calls.MAKE);
        begin();
        ask(true, Calls.CUT, 2);
        ask(0, Calls.MAKE);
        ask(1, Calls.MAKE);
        ask(DOWN, Calls.MAKE);
    }

    @Sentence("POWER. Making a document, cutting off, dropping take one WRITE")
    void terms_cuttingOffTakesOneWrite() {
        beginWithRevisionsOf20Bytes(8);
        ask(true, Calls.CUT, 1);
        ask(true, Calls.TRIM, 0, 7);
        ask(DOWN, Calls.MAKE);
        beginWithRevisionsOf20Bytes(8);
        ask(true, Calls.CUT, 2);
        ask(true, Calls.TRIM, 0, 1);
        ask(true, Calls.TRIM, 0, 7);
        ask(DOWN, Calls.MAKE);
    }

    @Sentence("POWER. Making a document, cutting off, dropping take one WRITE")
    void terms_droppingTakesOneWrite() {
        beginWithRevisionsOf20Bytes(8);
        ask(1, Calls.MAKE);
        ask(2, Calls.MAKE);
        ask(true, Calls.CUT, 2);
        ask(true, Calls.DROP, 0);
        ask(true, Calls.DROP, 2);
        ask(DOWN, Calls.DROP, 1);
    }

    /** Power lasts for the writes and no further; with one less it goes in the commit. */
    private void commitTakes(int writes, int bytesOfPiece) {
        for (int given = writes - 1; given <= writes + 1; given++) {
            beginWithDocument();
            fill(run('a', bytesOfText(bytesOfPiece)));
            ask(true, Calls.CUT, given);
            ask(given < writes ? DOWN : 0, Calls.COMMIT, 0, 1);
            if (given >= writes) {
                writesLeftAre(given - writes, 0, 1);
            }
        }
    }

    @Sentence("a commit as many as its piece takes blocks, and one.")
    void terms_writesOfACommit() {
        commitTakes(1, 0);
        commitTakes(2, 2);
        commitTakes(2, 32);
        commitTakes(3, 33);
        commitTakes(3, 64);
        commitTakes(4, 66);
        commitTakes(9, 256);
        commitTakes(10, 257);
        commitTakes(10, 258);
    }

    @Sentence("a commit as many as its piece takes blocks, and one.")
    void terms_writesAreOfThePieceNotOfTheText() {
        beginWithDocument();
        commitText(0, rising(0, 256));
        fill(rising(0, 256));
        ask(true, Calls.CUT, 2);
        ask(1, Calls.COMMIT, 0, 1);
        ask(DOWN, Calls.MAKE);
    }

    private void beginWithTwoRevisions() {
        beginWithDocument();
        commitText(0, "abcd");
        commitText(1, "abcdefgh");
        ask(8, Calls.FETCH, 0, 1);
    }

    private void askWriting(Object want, int[] call) {
        ask(want, call[0], java.util.Arrays.copyOfRange(call, 1, 3));
    }

    @Sentence("A call that is to do so throws, if power goes before its last write")
    void terms_eachWritingCallThrowsWithoutPower() {
        for (int[] call : WRITING) {
            beginWithTwoRevisions();
            ask(true, Calls.CUT, 0);
            askWriting(DOWN, call);
        }
    }

    /** A commit of 258 bytes has ten writes; before each of them, the last too, power may go. */
    @Sentence("A call that is to do so throws, if power goes before its last write")
    void terms_powerGoesBeforeAnyWriteOfACommit() {
        for (int writes = 0; writes < 10; writes++) {
            beginWithDocument();
            fill(rising(0, 256));
            ask(true, Calls.CUT, writes);
            ask(DOWN, Calls.COMMIT, 0, 1);
            ask(true, Calls.START);
            ask(512, Calls.FREE);
            ask(NONE, Calls.ABOUT, 0, 1);
            bufferHas(0);
        }
    }

    @Sentence("then nothing of it is done")
    void terms_nothingIsDoneWhenPowerGoes() {
        for (int[] call : WRITING) {
            beginWithTwoRevisions();
            String before = seen();
            ask(true, Calls.CUT, 0);
            askWriting(DOWN, call);
            ask(true, Calls.START);
            isAsBefore(before);
            ask(1, Calls.MAKE);
            ask(2, Calls.COMMIT, 0, 1);
        }
    }

    @Sentence("the keeper is DOWN")
    void terms_isDownWhenPowerGoes() {
        for (int[] call : WRITING) {
            beginWithTwoRevisions();
            ask(true, Calls.CUT, 0);
            ask(false, Calls.IS_DOWN);
            askWriting(DOWN, call);
            ask(true, Calls.IS_DOWN);
        }
    }

    @Sentence("and the buffer is empty.")
    void terms_bufferIsEmptyWhenPowerGoes() {
        for (int[] call : WRITING) {
            beginWithTwoRevisions();
            fill("buffer");
            ask(true, Calls.CUT, 0);
            askWriting(DOWN, call);
            ask(true, Calls.START);
            bufferIs("", 0, 2);
        }
    }

    @Sentence("While it is down each call throws, but start() and isDown().")
    void terms_eachCallThrowsWhileDown() {
        beginWithTwoRevisions();
        String before = seen();
        goDown();
        for (int call = 0; call < Calls.NAMES.length; call++) {
            if (call != Calls.START && call != Calls.IS_DOWN) {
                ask(DOWN, call, 0, 0, 0, 0, 0);
                ask(DOWN, call, 0, 1, 1, 1, 1);
                ask(DOWN, call, -1, -1, -1, -1, -1);
                ask(DOWN, call, 9, 9, 9, 9, 9);
            }
        }
        ask(true, Calls.IS_DOWN);
        ask(true, Calls.START);
        isAsBefore(before);
        bufferHas(0);
    }

    @Sentence("The constants: `NONE = -1`: Nothing there, or it can't be.")
    void terms_noneIsMinus1() {
        due("NONE", TextKeeper.NONE, -1);
        ask(TextKeeper.NONE, Calls.STEPS);
        ask(TextKeeper.NONE, Calls.OUT, 0);
    }

    @Sentence("`BAD = -2`: A text can't be made again.")
    void terms_badIsMinus2() {
        due("BAD", TextKeeper.BAD, -2);
        ask(0, Calls.MAKE);
        commitText(0, "ab");
        ask(true, Calls.DAMAGE, 0, 0, 0, 1);
        ask(TextKeeper.BAD, Calls.FETCH, 0, 0);
    }
}
