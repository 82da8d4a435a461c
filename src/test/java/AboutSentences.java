/** The sentences of the promises 11, 12, 13 and 17: about, revision, pieceByte, freeBlocks. */
final class AboutSentences extends Asking {
    private static final int[] NO_DOCUMENTS = {LOWEST, -1, 1, 7, 8, HIGHEST};

    AboutSentences(Checks checks) {
        super(checks);
    }

    @Sentence("Of a document, what 0: the first revision")
    void promise11_theFirstRevision() {
        beginWithTexts("a", "b", "c");
        ask(0, Calls.ABOUT, 0, 0);
        ask(true, Calls.TRIM, 0, 1);
        ask(1, Calls.ABOUT, 0, 0);
        ask(true, Calls.TRIM, 0, 2);
        ask(2, Calls.ABOUT, 0, 0);
        ask(3, Calls.COMMIT, 0, 1);
        ask(2, Calls.ABOUT, 0, 0);
    }

    @Sentence("1: the newest one")
    void promise11_theNewestOneUpTo63() {
        ask(0, Calls.MAKE);
        for (int r = 0; r < 64; r++) {
            ask(r, Calls.COMMIT, 0, r);
            ask(r, Calls.ABOUT, 0, 1);
        }
        ask(NONE, Calls.COMMIT, 0, 64);
        ask(63, Calls.ABOUT, 0, 1);
        ask(true, Calls.TRIM, 0, 63);
        ask(63, Calls.ABOUT, 0, 1);
    }

    /** FIRST is "0 at first", so a document without revisions has a first, but no newest one. */
    @Sentence("NONE without any")
    void promise11_withoutRevisions() {
        ask(0, Calls.MAKE);
        ask(NONE, Calls.ABOUT, 0, 1);
        ask(0, Calls.ABOUT, 0, 0);
        ask(0, Calls.COMMIT, 0, 1);
        ask(0, Calls.ABOUT, 0, 1);
        ask(0, Calls.ABOUT, 0, 0);
    }

    @Sentence("NoSuchElementException if there is none such")
    void promise11_noSuchDocument() {
        beginWithTexts("a");
        for (int d : NO_DOCUMENTS) {
            for (int what : new int[] {LOWEST, -1, 0, 1, 2, HIGHEST}) {
                ask(NO_SUCH, Calls.ABOUT, d, what);
            }
        }
        ask(0, Calls.ABOUT, 0, 1);
        ask(true, Calls.DROP, 0);
        ask(NO_SUCH, Calls.ABOUT, 0, 0);
        ask(NO_SUCH, Calls.ABOUT, 0, 1);
        ask(NO_SUCH, Calls.ABOUT, 0, 2);
    }

    @Sentence("IllegalArgumentException for another what")
    void promise11_anotherWhat() {
        beginWithTexts("a");
        for (int what : new int[] {LOWEST, -1, 2, 3, HIGHEST}) {
            ask(ARGUMENT, Calls.ABOUT, 0, what);
        }
        ask(1, Calls.MAKE);
        ask(ARGUMENT, Calls.ABOUT, 1, -1);
        ask(ARGUMENT, Calls.ABOUT, 1, 2);
        ask(0, Calls.ABOUT, 0, 0);
        ask(0, Calls.ABOUT, 0, 1);
    }

    @Sentence("IllegalStateException, before these, if it is down.")
    void promise11_throwsIfDownBeforeTheOthers() {
        beginWithTexts("a");
        goDown();
        ask(DOWN, Calls.ABOUT, 0, 0);
        ask(DOWN, Calls.ABOUT, 0, 1);
        ask(DOWN, Calls.ABOUT, 0, 2);
        ask(DOWN, Calls.ABOUT, 1, 0);
        ask(DOWN, Calls.ABOUT, -1, -1);
        ask(true, Calls.START);
        ask(NO_SUCH, Calls.ABOUT, 1, 0);
        ask(ARGUMENT, Calls.ABOUT, 0, 2);
    }

    @Sentence("Of a revision, what 0: how many bytes its piece has")
    void promise12_bytesOfThePieceNotOfTheText() {
        beginWithTexts("abcdefgh", "abcdefgh", "", "x");
        ask(9, Calls.REVISION, 0, 0, 0);
        ask(2, Calls.REVISION, 0, 1, 0);
        ask(0, Calls.REVISION, 0, 2, 0);
        ask(2, Calls.REVISION, 0, 3, 0);
        commitText(4, rising(0, 256));
        // INSERT 97, COPY 8 from 0, INSERT 151.
        ask(2 + 97 + 2 + 2 + 151, Calls.REVISION, 0, 4, 0);
        beginWithTexts(rising(0, 256));
        ask(258, Calls.REVISION, 0, 0, 0);
    }

    @Sentence("1: its author")
    void promise12_itsAuthor() {
        ask(0, Calls.MAKE);
        int[] authors = {LOWEST, -1, 0, 1, HIGHEST};
        for (int r = 0; r < authors.length; r++) {
            ask(r, Calls.COMMIT, 0, authors[r]);
        }
        for (int r = 0; r < authors.length; r++) {
            ask(authors[r], Calls.REVISION, 0, r, 1);
        }
    }

    @Sentence("2: its sum, as it was committed")
    void promise12_theSumAsItWasCommitted() {
        beginWithTexts("ab", "ab!");
        ask(98 * 31 + 99, Calls.REVISION, 0, 0, 2);
        ask((98 * 31 + 99) * 31 + 34, Calls.REVISION, 0, 1, 2);
        setPiece(0, 4, 'x');
        ask(98 * 31 + 99, Calls.REVISION, 0, 0, 2);
        setPiece(0, 7);
        ask(BAD, Calls.FETCH, 0, 0);
        ask(98 * 31 + 99, Calls.REVISION, 0, 0, 2);
        ask((98 * 31 + 99) * 31 + 34, Calls.REVISION, 0, 1, 2);
    }

    @Sentence("0 and 2 also of one that can't be asked for, as long as its piece is kept.")
    void promise12_keptButNotToBeAskedFor() {
        beginWithTexts("a", "b", "c", "d", "e");
        ask(true, Calls.TRIM, 0, 3);
        for (int r : new int[] {0, 2}) {
            ask(2, Calls.REVISION, 0, r, 0);
            ask(NO_SUCH, Calls.REVISION, 0, r, 1);
            ask('a' + r + 1, Calls.REVISION, 0, r, 2);
        }
        ask(103, Calls.REVISION, 0, 3, 1);
        ask(true, Calls.TRIM, 0, 4);
        // 4 is made from 0 alone.
        ask(2, Calls.REVISION, 0, 0, 0);
        for (int r = 1; r < 4; r++) {
            ask(NO_SUCH, Calls.REVISION, 0, r, 0);
            ask(NO_SUCH, Calls.REVISION, 0, r, 1);
            ask(NO_SUCH, Calls.REVISION, 0, r, 2);
        }
        ask(104, Calls.REVISION, 0, 4, 1);
    }

    @Sentence("NoSuchElementException if there is none such")
    void promise12_noSuchRevision() {
        beginWithDocument();
        ask(NO_SUCH, Calls.REVISION, 0, 0, 0);
        beginWithTexts("a", "b");
        for (int r : new int[] {LOWEST, -1, 2, 3, 63, 64, HIGHEST}) {
            for (int what : new int[] {-1, 0, 1, 2, 3}) {
                ask(NO_SUCH, Calls.REVISION, 0, r, what);
            }
        }
        ask(100, Calls.REVISION, 0, 0, 1);
        ask(101, Calls.REVISION, 0, 1, 1);
    }

    @Sentence("NoSuchElementException if there is none such")
    void promise12_noRevision64Of64() {
        beginWithRevisionsOf20Bytes(64);
        ask(63, Calls.REVISION, 0, 63, 1);
        for (int what = 0; what < 4; what++) {
            ask(NO_SUCH, Calls.REVISION, 0, 64, what);
            ask(NO_SUCH, Calls.REVISION, 0, 65, what);
        }
    }

    @Sentence("NoSuchElementException if there is none such")
    void promise12_noSuchDocument() {
        beginWithTexts("a", "b");
        for (int d : NO_DOCUMENTS) {
            for (int what : new int[] {-1, 0, 1, 2, 3}) {
                ask(NO_SUCH, Calls.REVISION, d, 0, what);
            }
        }
        ask(true, Calls.DROP, 0);
        for (int what : new int[] {-1, 0, 1, 2, 3}) {
            ask(NO_SUCH, Calls.REVISION, 0, 0, what);
        }
    }

    @Sentence("IllegalArgumentException for another what")
    void promise12_anotherWhat() {
        beginWithTexts("a", "b");
        for (int what : new int[] {LOWEST, -1, 3, 4, HIGHEST}) {
            ask(ARGUMENT, Calls.REVISION, 0, 0, what);
            ask(ARGUMENT, Calls.REVISION, 0, 1, what);
        }
        ask(2, Calls.REVISION, 0, 0, 0);
        ask(98, Calls.REVISION, 0, 0, 2);
    }

    @Sentence("IllegalStateException, before these, if it is down.")
    void promise12_throwsIfDownBeforeTheOthers() {
        beginWithTexts("a");
        goDown();
        for (int what = -1; what <= 3; what++) {
            ask(DOWN, Calls.REVISION, 0, 0, what);
            ask(DOWN, Calls.REVISION, 0, 1, what);
            ask(DOWN, Calls.REVISION, 1, 0, what);
        }
        ask(true, Calls.START);
        ask(100, Calls.REVISION, 0, 0, 1);
        ask(NO_SUCH, Calls.REVISION, 0, 1, 1);
        ask(ARGUMENT, Calls.REVISION, 0, 0, 3);
    }

    @Sentence("Byte i of the piece of a revision")
    void promise13_theFirstAndTheLastByte() {
        beginWithTexts("\0\u007f\u0080\u00ff", "\0\u007f\u0080\u00ff!");
        pieceIs(0, 8, 0, 127, 128, 255);
        pieceIs(1, 9, 0, 2, '!');
        beginWithTexts(rising(0, 256));
        ask(128, Calls.PIECE_BYTE, 0, 0, 0);
        ask(4, Calls.PIECE_BYTE, 0, 0, 1);
        ask(254, Calls.PIECE_BYTE, 0, 0, 256);
        ask(255, Calls.PIECE_BYTE, 0, 0, 257);
        ask(NONE, Calls.PIECE_BYTE, 0, 0, 258);
    }

    @Sentence("NONE if no such piece is kept")
    void promise13_noSuchPieceIsKept() {
        beginWithDocument();
        ask(NONE, Calls.PIECE_BYTE, 0, 0, 0);
        beginWithTexts("a", "b", "c", "d");
        for (int r : new int[] {LOWEST, -1, 4, 63, 64, HIGHEST}) {
            ask(NONE, Calls.PIECE_BYTE, 0, r, 0);
        }
        for (int d : NO_DOCUMENTS) {
            ask(NONE, Calls.PIECE_BYTE, d, 0, 0);
        }
        ask(true, Calls.TRIM, 0, 3);
        // 3 is made from 2 and 0.
        ask(2, Calls.PIECE_BYTE, 0, 0, 0);
        ask(NONE, Calls.PIECE_BYTE, 0, 1, 0);
        ask((int) 'c', Calls.PIECE_BYTE, 0, 2, 1);
        ask((int) 'd', Calls.PIECE_BYTE, 0, 3, 1);
        ask(true, Calls.DROP, 0);
        ask(NONE, Calls.PIECE_BYTE, 0, 0, 0);
        ask(NONE, Calls.PIECE_BYTE, 0, 3, 0);
    }

    @Sentence("NONE if no such piece is kept")
    void promise13_noRevision64Of64() {
        beginWithRevisionsOf20Bytes(64);
        ask(63, Calls.PIECE_BYTE, 0, 63, 20);
        ask(NONE, Calls.PIECE_BYTE, 0, 64, 0);
        ask(NONE, Calls.PIECE_BYTE, 0, 65, 0);
    }

    @Sentence("or it has none such.")
    void promise13_belowTheFirstAndBehindTheLastByte() {
        beginWithTexts("abc", "");
        for (int i : new int[] {LOWEST, -1, 4, 5, 258, HIGHEST}) {
            ask(NONE, Calls.PIECE_BYTE, 0, 0, i);
        }
        ask(6, Calls.PIECE_BYTE, 0, 0, 0);
        ask((int) 'c', Calls.PIECE_BYTE, 0, 0, 3);
        for (int i : new int[] {-1, 0, 1}) {
            ask(NONE, Calls.PIECE_BYTE, 0, 1, i);
        }
    }

    @Sentence("IllegalStateException if it is down.")
    void promise13_throwsIfDown() {
        beginWithTexts("a");
        goDown();
        ask(DOWN, Calls.PIECE_BYTE, 0, 0, 0);
        ask(DOWN, Calls.PIECE_BYTE, 0, 0, 9);
        ask(DOWN, Calls.PIECE_BYTE, 1, 0, 0);
        ask(true, Calls.START);
        ask(2, Calls.PIECE_BYTE, 0, 0, 0);
    }

    @Sentence("How many blocks are free.")
    void promise17_allAtFirstAndLessByEachPiece() {
        ask(512, Calls.FREE);
        ask(0, Calls.MAKE);
        ask(1, Calls.MAKE);
        ask(512, Calls.FREE);
        commitText(0, 0, "");
        ask(512, Calls.FREE);
        commitText(0, 1, run('a', 31));
        ask(511, Calls.FREE);
        commitText(1, 0, run('b', 32));
        ask(509, Calls.FREE);
        commitText(0, 2, rising(0, 256));
        ask(500, Calls.FREE);
    }

    @Sentence("How many blocks are free.")
    void promise17_moreByCuttingOffAndDropping() {
        beginWithTexts(run('a', 31), run('b', 40), run('c', 80), run('d', 100));
        ask(512 - 1 - 2 - 3 - 4, Calls.FREE);
        ask(true, Calls.TRIM, 0, 1);
        ask(512 - 1 - 2 - 3 - 4, Calls.FREE);
        ask(true, Calls.TRIM, 0, 2);
        ask(512 - 1 - 3 - 4, Calls.FREE);
        ask(true, Calls.TRIM, 0, 3);
        ask(512 - 1 - 3 - 4, Calls.FREE);
        commitText(4, "");
        ask(true, Calls.TRIM, 0, 4);
        ask(512 - 1, Calls.FREE);
        ask(true, Calls.DROP, 0);
        ask(512, Calls.FREE);
    }

    @Sentence("How many blocks are free.")
    void promise17_asBeforeWhenACallIsRefusedOrPowerGoes() {
        beginWithTexts(run('a', 31));
        fill(run('b', 100));
        ask(NONE, Calls.COMMIT, 1, 1);
        ask(511, Calls.FREE);
        ask(true, Calls.CUT, 4);
        ask(DOWN, Calls.COMMIT, 0, 1);
        ask(true, Calls.START);
        ask(511, Calls.FREE);
        ask(true, Calls.DAMAGE, 0, 0, 0, 255);
        ask(511, Calls.FREE);
    }

    @Sentence("IllegalStateException if it is down.")
    void promise17_throwsIfDown() {
        goDown();
        ask(DOWN, Calls.FREE);
        ask(true, Calls.START);
        ask(512, Calls.FREE);
    }
}
