/** The sentences of the promises 4, 5, 9 and 10: make, commit, trim, dropDocument. */
final class DocumentSentences extends Asking {
    private static final int[] NO_DOCUMENTS = {LOWEST, -1, 1, 7, 8, HIGHEST};

    DocumentSentences(Checks checks) {
        super(checks);
    }

    private void beginWithRevisions(int n) {
        beginWithDocument();
        for (int r = 0; r < n; r++) {
            commitText(r, run('a' + r, 4));
        }
    }

    @Sentence("A document more, without revisions: its number")
    void promise04_aDocumentWithoutRevisions() {
        for (int d = 0; d < 8; d++) {
            ask(d, Calls.MAKE);
            ask(NONE, Calls.ABOUT, d, 1);
            ask(NONE, Calls.FETCH, d, 0);
            ask(512, Calls.FREE);
        }
    }

    @Sentence("A document more, without revisions: its number")
    void promise04_theOthersAndTheBufferStay() {
        beginWithRevisions(2);
        fill("buffer");
        ask(1, Calls.MAKE);
        ask(1, Calls.ABOUT, 0, 1);
        textIs(0, 1, "bbbb");
        bufferIs("buffer", 1, 0);
    }

    @Sentence("NONE if there were 8 already.")
    void promise04_theEighthButNoNinth() {
        for (int d = 0; d < 7; d++) {
            ask(d, Calls.MAKE);
        }
        ask(7, Calls.MAKE);
        fill("abcd");
        String before = seen();
        ask(NONE, Calls.MAKE);
        ask(NONE, Calls.MAKE);
        isAsBefore(before);
        bufferIs("abcd", 7, 0);
    }

    @Sentence("NONE if there were 8 already.")
    void promise04_aDroppedOneCountsToo() {
        for (int d = 0; d < 7; d++) {
            ask(d, Calls.MAKE);
        }
        ask(true, Calls.DROP, 0);
        ask(true, Calls.DROP, 6);
        ask(7, Calls.MAKE);
        ask(NONE, Calls.MAKE);
        ask(true, Calls.DROP, 7);
        ask(NONE, Calls.MAKE);
    }

    @Sentence("NONE if there were 8 already.")
    void promise04_theRefusedOneTakesNoWrite() {
        for (int d = 0; d < 8; d++) {
            ask(d, Calls.MAKE);
        }
        ask(true, Calls.CUT, 0);
        ask(NONE, Calls.MAKE);
        ask(false, Calls.IS_DOWN);
        ask(true, Calls.CUT, 2);
        ask(NONE, Calls.MAKE);
        writesLeftAre(2, 0, 0);
    }

    @Sentence("IllegalStateException if it is down")
    void promise04_throwsIfDown() {
        goDown();
        ask(DOWN, Calls.MAKE);
        ask(true, Calls.START);
        ask(0, Calls.MAKE);
        for (int d = 1; d < 8; d++) {
            ask(d, Calls.MAKE);
        }
        ask(true, Calls.CUT, 0);
        ask(DOWN, Calls.DROP, 0);
        ask(DOWN, Calls.MAKE);
    }

    @Sentence("or power goes.")
    void promise04_throwsIfPowerGoes() {
        ask(true, Calls.CUT, 0);
        ask(DOWN, Calls.MAKE);
        ask(true, Calls.START);
        ask(NO_SUCH, Calls.ABOUT, 0, 0);
        ask(true, Calls.CUT, 1);
        ask(0, Calls.MAKE);
        ask(DOWN, Calls.MAKE);
        ask(true, Calls.START);
        ask(1, Calls.MAKE);
    }

    @Sentence("The buffer's bytes")
    void promise05_theBuffersBytesAreTheText() {
        ask(0, Calls.MAKE);
        fill("\0abc\u00ff");
        ask(0, Calls.COMMIT, 0, 7);
        textIs(0, 0, "\0abc\u00ff");
        ask(1, Calls.COMMIT, 0, 8);
        textIs(0, 1, "");
    }

    @Sentence("(the buffer is empty then, if it is done)")
    void promise05_theBufferIsEmptyIfDone() {
        ask(0, Calls.MAKE);
        fill("abcd");
        ask(0, Calls.COMMIT, 0, 1);
        bufferHas(0);
        fill(rising(0, 256));
        ask(1, Calls.COMMIT, 0, 1);
        bufferHas(0);
    }

    @Sentence("are the next revision of a document: its number.")
    void promise05_revisionsAreNumberedInEachDocument() {
        ask(0, Calls.MAKE);
        ask(1, Calls.MAKE);
        for (int r = 0; r < 3; r++) {
            commitText(0, r, "of 0, " + r);
            ask(r, Calls.ABOUT, 0, 1);
            ask(r - 1, Calls.ABOUT, 1, 1);
            commitText(1, r, "of 1, " + r);
        }
        for (int r = 0; r < 3; r++) {
            textIs(0, r, "of 0, " + r);
            textIs(1, r, "of 1, " + r);
        }
        ask(true, Calls.TRIM, 0, 2);
        commitText(3, "next");
        textIs(0, 3, "next");
    }

    /** A commit that is refused leaves all as it was, the buffer and the writes to come too. */
    private void refusesCommit(int document) {
        fill("buffer");
        String before = seen();
        ask(NONE, Calls.COMMIT, document, 1);
        isAsBefore(before);
        bufferHas(6);
    }

    @Sentence("NONE, and nothing changes, if there is no such document")
    void promise05_noSuchDocument() {
        beginWithRevisions(1);
        for (int d : NO_DOCUMENTS) {
            refusesCommit(d);
        }
        bufferIs("buffer", 0, 1);
    }

    @Sentence("NONE, and nothing changes, if there is no such document")
    void promise05_aDroppedDocument() {
        beginWithRevisions(1);
        ask(1, Calls.MAKE);
        ask(true, Calls.DROP, 0);
        refusesCommit(0);
        ask(true, Calls.CUT, 1);
        ask(NONE, Calls.COMMIT, 0, 1);
        ask(NONE, Calls.COMMIT, 2, 1);
        ask(2, Calls.MAKE);
        ask(DOWN, Calls.MAKE);
    }

    @Sentence("it has 64 revisions")
    void promise05_revision63ButNoFurther() {
        ask(0, Calls.MAKE);
        ask(1, Calls.MAKE);
        for (int r = 0; r < 62; r++) {
            ask(r, Calls.COMMIT, 0, r);
        }
        ask(62, Calls.COMMIT, 0, 62);
        ask(63, Calls.COMMIT, 0, 63);
        ask(63, Calls.ABOUT, 0, 1);
        fill("abcd");
        ask(NONE, Calls.COMMIT, 0, 64);
        ask(63, Calls.ABOUT, 0, 1);
        ask(0, Calls.ABOUT, 0, 0);
        ask(63, Calls.REVISION, 0, 63, 1);
        ask(512, Calls.FREE);
        ask(true, Calls.CUT, 0);
        ask(NONE, Calls.COMMIT, 0, 64);
        ask(false, Calls.IS_DOWN);
        ask(true, Calls.CUT, 2);
        bufferIs("abcd", 1, 0);
    }

    @Sentence("it has 64 revisions")
    void promise05_thoseCutOffCountToo() {
        ask(0, Calls.MAKE);
        for (int r = 0; r < 63; r++) {
            ask(r, Calls.COMMIT, 0, r);
        }
        ask(true, Calls.TRIM, 0, 62);
        ask(63, Calls.COMMIT, 0, 63);
        ask(true, Calls.TRIM, 0, 63);
        ask(NONE, Calls.COMMIT, 0, 64);
        ask(63, Calls.ABOUT, 0, 1);
    }

    @Sentence("the text of its base can't be made again")
    void promise05_aBaseThatCannotBeMadeAgain() {
        beginWithRevisions(3);
        ask(4, Calls.FETCH, 0, 1);
        // 3 would be made from 2.
        setPiece(2, 10);
        refusesCommit(0);
        ask(true, Calls.CUT, 0);
        ask(NONE, Calls.COMMIT, 0, 1);
        ask(false, Calls.IS_DOWN);
        ask(2, Calls.ABOUT, 0, 1);
        ask(true, Calls.CUT, 2);
        setPiece(2, 8);
        bufferIs("buffer", 0, 3);
    }

    @Sentence("the text of its base can't be made again")
    void promise05_aBaseWhoseOwnBaseCannotBeMadeAgain() {
        beginWithRevisions(3);
        setPiece(0, 10);
        refusesCommit(0);
        setPiece(0, 8);
        bufferIs("buffer", 0, 3);
    }

    @Sentence("the text of its base can't be made again")
    void promise05_onlyItsOwnBaseIsNeeded() {
        beginWithRevisions(4);
        // 4 is made from 0; that 3, 2 and 1 can't be made is nothing to it.
        setPiece(1, 10);
        setPiece(2, 10);
        setPiece(3, 10);
        commitText(4, "aaaa!");
        pieceIs(4, 9, 0, 2, '!');
        textIs(0, 4, "aaaa!");
        ask(1, Calls.VERIFY, 0);
    }

    @Sentence("the text of its base can't be made again")
    void promise05_revision0NeedsNoBase() {
        ask(0, Calls.MAKE);
        ask(1, Calls.MAKE);
        commitText(0, 0, "abcd");
        setPiece(0, 10);
        commitText(1, 0, "abcd");
        textIs(1, 0, "abcd");
    }

    @Sentence("the text of its base can't be made again")
    void promise05_aChangedBaseThatCanBeMadeWillDo() {
        ask(0, Calls.MAKE);
        commitText(0, "abcd");
        setPiece(0, 8, 'A', 'B', 'C', 'D');
        commitText(1, "ABCD");
        pieceIs(1, 9, 0);
        commitText(2, "abcd");
        pieceIs(2, 8, 'a', 'b', 'c', 'd');
        textIs(0, 2, "abcd");
        ask(0, Calls.VERIFY, 0);
    }

    /** Twenty bytes a call can't fill 512 blocks in 512 calls, so this run alone goes further. */
    @Sentence("or there are not enough free blocks.")
    void promise05_notEnoughFreeBlocks() {
        goBeyondTheCalls();
        ask(0, Calls.MAKE);
        ask(1, Calls.MAKE);
        int seed = 1;
        for (int r = 0; r < 64; r++) {
            StringBuilder text = new StringBuilder();
            for (int i = 0; i < (r < 63 ? 240 : 160); i++) {
                seed = seed * 1103515245 + 12345;
                text.append((char) (seed >>> 16 & 255));
            }
            commitText(r, text.toString());
        }
        ask(2, Calls.FREE);
        // 63 bytes are a piece of two blocks, 64 bytes one of three.
        fill(run('a', 64));
        ask(true, Calls.CUT, 0);
        ask(NONE, Calls.COMMIT, 1, 0);
        ask(false, Calls.IS_DOWN);
        ask(NONE, Calls.ABOUT, 1, 1);
        ask(2, Calls.FREE);
        bufferHas(64);
        ask(true, Calls.CUT, 3);
        ask(true, Calls.END, 63);
        ask(0, Calls.COMMIT, 1, 0);
        ask(0, Calls.FREE);
        writesLeftAre(0, 1, 1);
        ask(true, Calls.START);
        ask(1, Calls.COMMIT, 1, 0);
        fill("b");
        ask(NONE, Calls.COMMIT, 1, 0);
        bufferHas(1);
        ask(true, Calls.TRIM, 0, 63);
        ask(2, Calls.COMMIT, 1, 0);
    }

    @Sentence("IllegalStateException if it is down")
    void promise05_throwsIfDown() {
        beginWithRevisions(1);
        goDown();
        ask(DOWN, Calls.COMMIT, 0, 1);
        ask(DOWN, Calls.COMMIT, 1, 1);
        ask(DOWN, Calls.COMMIT, -1, 1);
        ask(true, Calls.START);
        ask(0, Calls.ABOUT, 0, 1);
        ask(1, Calls.COMMIT, 0, 1);
    }

    @Sentence("or power goes.")
    void promise05_throwsIfPowerGoes() {
        for (int writes = 0; writes < 3; writes++) {
            beginWithRevisions(2);
            fill(run('x', 40));
            String before = seen();
            ask(true, Calls.CUT, writes);
            ask(DOWN, Calls.COMMIT, 0, 1);
            ask(true, Calls.START);
            isAsBefore(before);
            bufferHas(0);
            ask(2, Calls.COMMIT, 0, 1);
        }
        beginWithRevisions(2);
        fill(run('x', 40));
        ask(true, Calls.CUT, 3);
        ask(2, Calls.COMMIT, 0, 1);
        writesLeftAre(0, 0, 3);
    }

    @Sentence("The first revision of a document that can be asked for is another one, not below it: true")
    void promise09_theFirstAndTheNextAndTheNewest() {
        beginWithRevisions(8);
        ask(true, Calls.TRIM, 0, 0);
        ask(0, Calls.ABOUT, 0, 0);
        textIs(0, 0, "aaaa");
        ask(true, Calls.TRIM, 0, 1);
        ask(1, Calls.ABOUT, 0, 0);
        ask(NONE, Calls.FETCH, 0, 0);
        textIs(0, 1, "bbbb");
        ask(true, Calls.TRIM, 0, 6);
        ask(6, Calls.ABOUT, 0, 0);
        ask(NONE, Calls.FETCH, 0, 5);
        textIs(0, 6, "gggg");
        textIs(0, 7, "hhhh");
        ask(true, Calls.TRIM, 0, 7);
        ask(7, Calls.ABOUT, 0, 0);
        ask(7, Calls.ABOUT, 0, 1);
        textIs(0, 7, "hhhh");
    }

    @Sentence("The first revision of a document that can be asked for is another one, not below it: true")
    void promise09_notBelowTheFirst() {
        beginWithRevisions(6);
        ask(true, Calls.TRIM, 0, 4);
        String before = seen();
        ask(false, Calls.TRIM, 0, 3);
        ask(false, Calls.TRIM, 0, 0);
        isAsBefore(before);
        ask(true, Calls.TRIM, 0, 4);
        isAsBefore(before);
        ask(true, Calls.TRIM, 0, 5);
    }

    @Sentence("The first revision of a document that can be asked for is another one, not below it: true")
    void promise09_theOtherDocumentsAndTheTextStay() {
        beginWithRevisions(2);
        ask(1, Calls.MAKE);
        commitText(1, 0, "other");
        ask(4, Calls.FETCH, 0, 0);
        fill("buffer");
        ask(true, Calls.TRIM, 0, 1);
        fetchedIs("aaaa");
        ask(0, Calls.STEPS);
        ask(0, Calls.ABOUT, 1, 0);
        textIs(1, 0, "other");
        bufferIs("buffer", 1, 1);
    }

    @Sentence("false if there is no such document")
    void promise09_noSuchDocument() {
        beginWithRevisions(2);
        String before = seen();
        ask(true, Calls.CUT, 1);
        for (int d : NO_DOCUMENTS) {
            ask(false, Calls.TRIM, d, 0);
            ask(false, Calls.TRIM, d, 1);
        }
        isAsBefore(before);
        writesLeftAre(1, 0, 2);
        ask(true, Calls.START);
        ask(true, Calls.DROP, 0);
        ask(false, Calls.TRIM, 0, 0);
    }

    @Sentence("or revision.")
    void promise09_noSuchRevision() {
        beginWithDocument();
        ask(false, Calls.TRIM, 0, 0);
        beginWithRevisions(3);
        fill("buffer");
        String before = seen();
        ask(true, Calls.CUT, 1);
        for (int r : new int[] {LOWEST, -1, 3, 4, 63, 64, HIGHEST}) {
            ask(false, Calls.TRIM, 0, r);
        }
        isAsBefore(before);
        bufferHas(6);
        ask(true, Calls.TRIM, 0, 2);
        ask(DOWN, Calls.MAKE);
    }

    @Sentence("or revision.")
    void promise09_noRevision64Of64() {
        beginWithRevisionsOf20Bytes(64);
        ask(false, Calls.TRIM, 0, 64);
        ask(false, Calls.TRIM, 0, 65);
        ask(true, Calls.TRIM, 0, 63);
        ask(63, Calls.ABOUT, 0, 0);
        ask(20, Calls.FETCH, 0, 63);
    }

    @Sentence("IllegalStateException if it is down")
    void promise09_throwsIfDown() {
        beginWithRevisions(2);
        goDown();
        ask(DOWN, Calls.TRIM, 0, 1);
        ask(DOWN, Calls.TRIM, 0, 2);
        ask(DOWN, Calls.TRIM, 1, 0);
        ask(true, Calls.START);
        ask(0, Calls.ABOUT, 0, 0);
    }

    @Sentence("or power goes.")
    void promise09_throwsIfPowerGoes() {
        beginWithRevisions(4);
        String before = seen();
        ask(true, Calls.CUT, 0);
        ask(DOWN, Calls.TRIM, 0, 3);
        ask(true, Calls.START);
        isAsBefore(before);
        ask(true, Calls.CUT, 0);
        ask(DOWN, Calls.TRIM, 0, 0);
        ask(true, Calls.START);
        ask(true, Calls.CUT, 1);
        ask(true, Calls.TRIM, 0, 3);
        ask(3, Calls.ABOUT, 0, 0);
    }

    @Sentence("A document is no more: true")
    void promise10_theDocumentIsNoMore() {
        beginWithRevisions(2);
        ask(1, Calls.MAKE);
        commitText(1, 0, "kept");
        ask(4, Calls.FETCH, 0, 1);
        fill("buffer");
        ask(true, Calls.DROP, 0);
        ask(511, Calls.FREE);
        ask(NO_SUCH, Calls.ABOUT, 0, 0);
        ask(NO_SUCH, Calls.REVISION, 0, 0, 0);
        ask(NONE, Calls.FETCH, 0, 0);
        ask(NONE, Calls.PIECE_BYTE, 0, 0, 0);
        ask(false, Calls.DAMAGE, 0, 0, 0, 1);
        ask(NONE, Calls.VERIFY, 0);
        ask(NONE, Calls.COMMON, 0, 0, 0, 0);
        ask(false, Calls.TRIM, 0, 0);
        ask(NONE, Calls.COMMIT, 0, 1);
        fetchedIs("bbbb");
        textIs(1, 0, "kept");
        bufferIs("buffer", 1, 1);
    }

    @Sentence("A document is no more: true")
    void promise10_theFirstAndTheLastAndAnEmptyOne() {
        for (int d = 0; d < 8; d++) {
            ask(d, Calls.MAKE);
        }
        for (int d : new int[] {7, 0, 3}) {
            ask(true, Calls.DROP, d);
            ask(false, Calls.DROP, d);
            ask(NO_SUCH, Calls.ABOUT, d, 0);
        }
        ask(0, Calls.ABOUT, 6, 0);
        ask(0, Calls.ABOUT, 1, 0);
    }

    @Sentence("false if there is none such.")
    void promise10_noSuchDocument() {
        beginWithRevisions(2);
        fill("buffer");
        String before = seen();
        ask(true, Calls.CUT, 1);
        for (int d : NO_DOCUMENTS) {
            ask(false, Calls.DROP, d);
        }
        isAsBefore(before);
        bufferHas(6);
        ask(true, Calls.DROP, 0);
        ask(false, Calls.DROP, 0);
        ask(false, Calls.IS_DOWN);
        ask(DOWN, Calls.MAKE);
    }

    @Sentence("IllegalStateException if it is down")
    void promise10_throwsIfDown() {
        beginWithRevisions(1);
        goDown();
        ask(DOWN, Calls.DROP, 0);
        ask(DOWN, Calls.DROP, 1);
        ask(true, Calls.START);
        textIs(0, 0, "aaaa");
    }

    @Sentence("or power goes.")
    void promise10_throwsIfPowerGoes() {
        beginWithRevisions(2);
        String before = seen();
        ask(true, Calls.CUT, 0);
        ask(DOWN, Calls.DROP, 0);
        ask(true, Calls.START);
        isAsBefore(before);
        ask(true, Calls.CUT, 1);
        ask(true, Calls.DROP, 0);
        ask(false, Calls.IS_DOWN);
    }
}
