/** The sentences of the promises 14 and 15: damage, verify. */
final class FaultSentences extends Asking {
    private static final int[] NO_DOCUMENTS = {LOWEST, -1, 1, 7, 8, HIGHEST};

    FaultSentences(Checks checks) {
        super(checks);
    }

    @Sentence("Byte i of a piece is exclusive-or")
    void promise14_theFirstAndTheLastByte() {
        beginWithTexts("abc", "abc");
        ask(true, Calls.DAMAGE, 0, 0, 0, 2);
        pieceIs(0, 4, 'a', 'b', 'c');
        ask(true, Calls.DAMAGE, 0, 0, 0, 2);
        ask(true, Calls.DAMAGE, 0, 0, 3, 1);
        pieceIs(0, 6, 'a', 'b', 'b');
        textIs(0, 0, "abb");
        pieceIs(1, 6, 'a', 'b', 'c');
        ask(true, Calls.DAMAGE, 0, 0, 3, 1);
        pieceIs(0, 6, 'a', 'b', 'c');
        textIs(0, 0, "abc");
    }

    @Sentence("the lowest eight bits of mask")
    void promise14_onlyTheLowestEightBits() {
        beginWithTexts("\0");
        int[] masks = {0, 1, 128, 255, 256, 257, -1, LOWEST, HIGHEST, 0x7fffff00, 0xffffff81};
        int[] due = {0, 1, 129, 126, 126, 127, 128, 128, 127, 127, 254};
        for (int k = 0; k < masks.length; k++) {
            ask(true, Calls.DAMAGE, 0, 0, 1, masks[k]);
            ask(due[k], Calls.PIECE_BYTE, 0, 0, 1);
        }
    }

    @Sentence("from now on (a fault): true")
    void promise14_staysAsItIsFromNowOn() {
        beginWithTexts("abc", "xyz");
        ask(true, Calls.DAMAGE, 0, 0, 1, 4);
        textIs(0, 0, "ebc");
        commitText(2, "more");
        goDown();
        ask(true, Calls.START);
        ask(true, Calls.TRIM, 0, 1);
        ask('a' ^ 4, Calls.PIECE_BYTE, 0, 0, 1);
        // 0 can't be asked for now; its piece is kept, and can be damaged.
        ask(true, Calls.DAMAGE, 0, 0, 0, 1);
        ask(7, Calls.PIECE_BYTE, 0, 0, 0);
        ask(BAD, Calls.FETCH, 0, 1);
    }

    @Sentence("from now on (a fault): true")
    void promise14_isNoWriteAndChangesNothingElse() {
        beginWithTexts("abc");
        ask(3, Calls.FETCH, 0, 0);
        fill("buffer");
        ask(true, Calls.CUT, 1);
        String before = seen();
        ask(true, Calls.DAMAGE, 0, 0, 1, 0);
        isAsBefore(before);
        ask(true, Calls.DAMAGE, 0, 0, 1, 8);
        fetchedIs("abc");
        bufferHas(6);
        ask(511, Calls.FREE);
        ask(4, Calls.REVISION, 0, 0, 0);
        ask(100, Calls.REVISION, 0, 0, 1);
        writesLeftAre(1, 0, 1);
    }

    @Sentence("false if no such piece is kept")
    void promise14_noSuchPieceIsKept() {
        beginWithDocument();
        ask(false, Calls.DAMAGE, 0, 0, 0, 1);
        beginWithTexts("a", "b", "c", "d");
        String before = seen();
        for (int r : new int[] {LOWEST, -1, 4, 63, 64, HIGHEST}) {
            ask(false, Calls.DAMAGE, 0, r, 0, 1);
        }
        for (int d : NO_DOCUMENTS) {
            ask(false, Calls.DAMAGE, d, 0, 0, 1);
        }
        isAsBefore(before);
        ask(true, Calls.TRIM, 0, 3);
        // 3 is made from 2 and 0.
        ask(false, Calls.DAMAGE, 0, 1, 0, 1);
        ask(true, Calls.DAMAGE, 0, 2, 0, 0);
        ask(true, Calls.DAMAGE, 0, 0, 0, 0);
        ask(NONE, Calls.VERIFY, 0);
        ask(true, Calls.DROP, 0);
        ask(false, Calls.DAMAGE, 0, 3, 0, 1);
    }

    @Sentence("false if no such piece is kept")
    void promise14_noRevision64Of64() {
        beginWithRevisionsOf20Bytes(64);
        ask(true, Calls.DAMAGE, 0, 63, 20, 0);
        ask(false, Calls.DAMAGE, 0, 64, 0, 1);
        ask(false, Calls.DAMAGE, 0, 65, 0, 1);
    }

    @Sentence("or it has none such.")
    void promise14_belowTheFirstAndBehindTheLastByte() {
        beginWithTexts("abc", "");
        String before = seen();
        for (int i : new int[] {LOWEST, -1, 4, 5, 258, HIGHEST}) {
            ask(false, Calls.DAMAGE, 0, 0, i, 1);
        }
        for (int i : new int[] {-1, 0, 1}) {
            ask(false, Calls.DAMAGE, 0, 1, i, 1);
        }
        isAsBefore(before);
    }

    @Sentence("IllegalStateException if it is down.")
    void promise14_throwsIfDown() {
        beginWithTexts("abc");
        goDown();
        ask(DOWN, Calls.DAMAGE, 0, 0, 0, 1);
        ask(DOWN, Calls.DAMAGE, 0, 0, 9, 1);
        ask(DOWN, Calls.DAMAGE, 1, 0, 0, 1);
        ask(true, Calls.START);
        pieceIs(0, 6, 'a', 'b', 'c');
    }

    @Sentence("The least revision of a document that can be asked for and can't be made again")
    void promise15_theLeastThatCannotBeMadeAgain() {
        beginWithTexts("abcd", "efgh", "ijkl", "mnop");
        setPiece(3, 10);
        ask(3, Calls.VERIFY, 0);
        setPiece(1, 10);
        ask(1, Calls.VERIFY, 0);
        setPiece(0, 10);
        ask(0, Calls.VERIFY, 0);
        setPiece(0, 8);
        ask(1, Calls.VERIFY, 0);
        setPiece(1, 8);
        ask(3, Calls.VERIFY, 0);
        setPiece(3, 8);
        ask(NONE, Calls.VERIFY, 0);
    }

    @Sentence("The least revision of a document that can be asked for and can't be made again")
    void promise15_onlyThoseThatCanBeAskedFor() {
        beginWithTexts("abcd", "efgh", "ijkl", "mnop");
        // 3 has nothing of 2's bytes, so a fault in these is none in 3.
        setPiece(2, 8, 'I');
        setPiece(1, 10);
        ask(1, Calls.VERIFY, 0);
        ask(true, Calls.TRIM, 0, 2);
        ask(2, Calls.VERIFY, 0);
        ask(true, Calls.TRIM, 0, 3);
        ask(NONE, Calls.VERIFY, 0);
        // A base that can't be asked for is found by what is made from it.
        setPiece(2, 10);
        ask(3, Calls.VERIFY, 0);
        setPiece(2, 8);
        setPiece(0, 10);
        ask(3, Calls.VERIFY, 0);
    }

    @Sentence("The least revision of a document that can be asked for and can't be made again")
    void promise15_theLastOf64() {
        beginWithRevisionsOf20Bytes(64);
        ask(NONE, Calls.VERIFY, 0);
        ask(true, Calls.DAMAGE, 0, 63, 20, 1);
        ask(63, Calls.VERIFY, 0);
        ask(true, Calls.DAMAGE, 0, 62, 0, 2);
        ask(62, Calls.VERIFY, 0);
    }

    @Sentence("or is of another sum than its own")
    void promise15_ofAnotherSum() {
        beginWithTexts("abcd", "abcdefgh", "xyz");
        ask(true, Calls.DAMAGE, 0, 1, 6, 1);
        ask(1, Calls.VERIFY, 0);
        textIs(0, 1, "abcdefgi");
        ask(true, Calls.DAMAGE, 0, 1, 6, 1);
        // A changed base changes what is copied from it.
        ask(true, Calls.DAMAGE, 0, 0, 4, 128);
        ask(0, Calls.VERIFY, 0);
        ask(true, Calls.TRIM, 0, 1);
        ask(1, Calls.VERIFY, 0);
        ask(true, Calls.TRIM, 0, 2);
        ask(NONE, Calls.VERIFY, 0);
    }

    @Sentence("or is of another sum than its own")
    void promise15_anotherTextOfTheSameSumIsNotFound() {
        // (1 + 1) * 31 + 1 + 1 is (0 + 1) * 31 + 32 + 1.
        beginWithTexts("\1\1");
        setPiece(0, 4, 0, 32);
        textIs(0, 0, "\0\40");
        ask(2 * 31 + 2, Calls.REVISION, 0, 0, 2);
        ask(NONE, Calls.VERIFY, 0);
        setPiece(0, 4, 0, 33);
        ask(0, Calls.VERIFY, 0);
        setPiece(0, 4, 0, 31);
        ask(0, Calls.VERIFY, 0);
    }

    @Sentence("NONE if there is none")
    void promise15_noneWithoutAFault() {
        beginWithDocument();
        ask(NONE, Calls.VERIFY, 0);
        beginWithTexts("", "abcd", rising(0, 256), "abcd", "");
        ask(NONE, Calls.VERIFY, 0);
        ask(true, Calls.DAMAGE, 0, 1, 0, 256);
        ask(NONE, Calls.VERIFY, 0);
        ask(true, Calls.DAMAGE, 0, 2, 257, 1);
        ask(2, Calls.VERIFY, 0);
        ask(true, Calls.DAMAGE, 0, 2, 257, 1);
        ask(NONE, Calls.VERIFY, 0);
        ask(true, Calls.TRIM, 0, 4);
        ask(NONE, Calls.VERIFY, 0);
    }

    @Sentence("or no such document.")
    void promise15_noSuchDocument() {
        beginWithTexts("abcd");
        setPiece(0, 10);
        for (int d : NO_DOCUMENTS) {
            ask(NONE, Calls.VERIFY, d);
        }
        ask(0, Calls.VERIFY, 0);
        ask(1, Calls.MAKE);
        ask(NONE, Calls.VERIFY, 1);
        ask(true, Calls.DROP, 0);
        ask(NONE, Calls.VERIFY, 0);
    }

    @Sentence("IllegalStateException if it is down.")
    void promise15_throwsIfDown() {
        beginWithTexts("abcd");
        ask(4, Calls.FETCH, 0, 0);
        setPiece(0, 10);
        ask(0, Calls.VERIFY, 0);
        fetchedIs("abcd");
        goDown();
        ask(DOWN, Calls.VERIFY, 0);
        ask(DOWN, Calls.VERIFY, 1);
        ask(true, Calls.START);
        ask(0, Calls.VERIFY, 0);
    }
}
