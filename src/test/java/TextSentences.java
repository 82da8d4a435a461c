/** The sentences of the promises 6, 7, 8 and 16: fetch, out, steps, common. */
final class TextSentences extends Asking {
    private static final int[] WRONG = {LOWEST, -1, 64, HIGHEST};

    TextSentences(Checks checks) {
        super(checks);
    }

    @Sentence("A revision's text is made again (it is THE TEXT then, in place of another one): how many bytes")
    void promise06_theTextInPlaceOfAnotherOne() {
        beginWithTexts("a longer text", "short", "");
        textIs(0, 0, "a longer text");
        textIs(0, 1, "short");
        textIs(0, 2, "");
        textIs(0, 0, "a longer text");
    }

    @Sentence("A revision's text is made again (it is THE TEXT then, in place of another one): how many bytes")
    void promise06_textsOf0And1And255And256Bytes() {
        int[] lengths = {0, 1, 255, 256};
        beginWithTexts("", "a", run('b', 255), run('c', 256));
        for (int r = 0; r < lengths.length; r++) {
            ask(lengths[r], Calls.FETCH, 0, r);
            ask(lengths[r] == 0 ? NONE : 'a' + r - 1, Calls.OUT, lengths[r] - 1);
            ask(NONE, Calls.OUT, lengths[r]);
        }
    }

    @Sentence("A revision's text is made again (it is THE TEXT then, in place of another one): how many bytes")
    void promise06_theTextIsNoPartOfWhatIsKept() {
        beginWithTexts("abcd", "abcdefgh");
        ask(8, Calls.FETCH, 0, 1);
        fill("buffer");
        setPiece(0, 8, 'A', 'B', 'C', 'D');
        ask(4, Calls.COMMON, 0, 0, 1, 0);
        ask(0, Calls.VERIFY, 0);
        ask(2, Calls.COMMIT, 0, 1);
        ask(true, Calls.TRIM, 0, 2);
        ask(true, Calls.DROP, 0);
        fetchedIs("abcdefgh");
        ask(1, Calls.STEPS);
    }

    private void noneAndTheTextStays(int document, int revision) {
        ask(NONE, Calls.FETCH, document, revision);
        fetchedIs("beta");
        ask(1, Calls.STEPS);
    }

    @Sentence("NONE if there is no such document")
    void promise06_noSuchDocument() {
        beginWithTexts("alpha", "beta");
        ask(1, Calls.MAKE);
        commitText(1, 0, "gamma");
        ask(4, Calls.FETCH, 0, 1);
        for (int d : new int[] {LOWEST, -1, 2, 7, 8, HIGHEST}) {
            noneAndTheTextStays(d, 0);
        }
        ask(true, Calls.DROP, 1);
        noneAndTheTextStays(1, 0);
    }

    @Sentence("or the revision can't be asked for")
    void promise06_belowTheFirstAndAboveTheNewest() {
        beginWithTexts("alpha", "beta", "gamma", "delta");
        ask(true, Calls.TRIM, 0, 1);
        textIs(0, 3, "delta");
        textIs(0, 1, "beta");
        for (int r : new int[] {LOWEST, -1, 0, 4, 63, 64, HIGHEST}) {
            noneAndTheTextStays(0, r);
        }
        ask(1, Calls.MAKE);
        noneAndTheTextStays(1, 0);
    }

    @Sentence("or the revision can't be asked for")
    void promise06_noRevision64Of64() {
        beginWithRevisionsOf20Bytes(64);
        ask(20, Calls.FETCH, 0, 63);
        ask(NONE, Calls.FETCH, 0, 64);
        ask(NONE, Calls.FETCH, 0, 65);
    }

    /** The first is made from 2, whose piece is kept; that one can't be asked for all the same. */
    @Sentence("or the revision can't be asked for")
    void promise06_keptButNotToBeAskedFor() {
        beginWithTexts("alpha", "-", "gamma", "beta");
        ask(true, Calls.TRIM, 0, 3);
        ask(6, Calls.REVISION, 0, 2, 0);
        ask(NONE, Calls.FETCH, 0, 2);
        ask(NONE, Calls.FETCH, 0, 0);
        ask(NONE, Calls.STEPS);
        textIs(0, 3, "beta");
    }

    @Sentence("BAD if it can't be made again")
    void promise06_badIfItCannotBeMadeAgain() {
        beginWithTexts("alpha", "beta", "gamma", "delta");
        setPiece(2, 12);
        ask(BAD, Calls.FETCH, 0, 2);
        ask(BAD, Calls.FETCH, 0, 3);
        ask(NONE, Calls.FETCH, 0, 4);
        textIs(0, 0, "alpha");
        textIs(0, 1, "beta");
        setPiece(2, 10);
        textIs(0, 3, "delta");
    }

    @Sentence("BAD if it can't be made again")
    void promise06_noneBeforeBad() {
        beginWithTexts("alpha", "beta");
        setPiece(0, 12);
        ask(true, Calls.TRIM, 0, 1);
        ask(NONE, Calls.FETCH, 0, 0);
        ask(BAD, Calls.FETCH, 0, 1);
    }

    @Sentence("(THE TEXT is as before in both cases).")
    void promise06_theTextIsAsBeforeIfBad() {
        beginWithTexts("alpha", "beta", "gamma", "delta");
        ask(4, Calls.FETCH, 0, 1);
        // What comes before the fault is well made: INSERT 1, then a number that is cut off.
        setPiece(3, 2, 'X', 2, 'Y', 2, 'Z');
        textIs(0, 3, "XYZ");
        ask(4, Calls.FETCH, 0, 1);
        setPiece(3, 2, 'X', 2, 'Y', 2 ^ 128, 'Z' ^ 128);
        ask(BAD, Calls.FETCH, 0, 3);
        fetchedIs("beta");
        ask(1, Calls.STEPS);
    }

    @Sentence("(THE TEXT is as before in both cases).")
    void promise06_stillNothingFetchedIfBadOrNone() {
        beginWithTexts("alpha");
        setPiece(0, 12);
        ask(BAD, Calls.FETCH, 0, 0);
        ask(NONE, Calls.FETCH, 0, 1);
        ask(NONE, Calls.STEPS);
        ask(NONE, Calls.OUT, 0);
    }

    @Sentence("IllegalStateException if it is down.")
    void promise06_throwsIfDown() {
        beginWithTexts("alpha", "beta");
        ask(4, Calls.FETCH, 0, 1);
        goDown();
        ask(DOWN, Calls.FETCH, 0, 0);
        ask(DOWN, Calls.FETCH, 0, 2);
        ask(DOWN, Calls.FETCH, 1, 0);
        ask(true, Calls.START);
        fetchedIs("beta");
    }

    @Sentence("Byte i of THE TEXT, from 0 on")
    void promise07_theFirstAndTheLastByte() {
        beginWithTexts("ab\0\u007f\u0080\u00ff", rising(0, 256));
        textIs(0, 0, "ab\0\u007f\u0080\u00ff");
        textIs(0, 1, rising(0, 256));
    }

    @Sentence("NONE if there is none such")
    void promise07_belowTheFirstAndBehindTheLast() {
        beginWithTexts("abcdef", "abc", "", rising(0, 256));
        for (int r = 0; r < 4; r++) {
            int length = r == 0 ? 6 : r == 1 ? 3 : r == 2 ? 0 : 256;
            ask(length, Calls.FETCH, 0, r);
            for (int i : new int[] {LOWEST, -1, length, length + 1, 256, 257, HIGHEST}) {
                ask(NONE, Calls.OUT, i);
            }
        }
    }

    @Sentence("or nothing was fetched.")
    void promise07_nothingWasFetched() {
        for (int i : new int[] {LOWEST, -1, 0, 1, 255, 256, HIGHEST}) {
            ask(NONE, Calls.OUT, i);
        }
        ask(0, Calls.MAKE);
        commitText(0, "abcd");
        ask(4, Calls.COMMON, 0, 0, 0, 0);
        ask(NONE, Calls.VERIFY, 0);
        ask(1, Calls.COMMIT, 0, 1);
        ask(NONE, Calls.OUT, 0);
    }

    @Sentence("IllegalStateException if it is down.")
    void promise07_throwsIfDown() {
        beginWithTexts("a");
        ask(1, Calls.FETCH, 0, 0);
        goDown();
        for (int i : new int[] {-1, 0, 1}) {
            ask(DOWN, Calls.OUT, i);
        }
        ask(true, Calls.START);
        ask((int) 'a', Calls.OUT, 0);
    }

    @Sentence("Out of how many pieces THE TEXT was made")
    void promise08_stepsOfEachOf64() {
        beginWithDocument();
        for (int r = 0; r < 64; r++) {
            ask(r, Calls.COMMIT, 0, r);
        }
        for (int r = 0; r < 64; r++) {
            int steps = 0;
            for (int k = r; k > 0; k -= Integer.lowestOneBit(k)) {
                steps++;
            }
            ask(0, Calls.FETCH, 0, r);
            ask(steps, Calls.STEPS);
        }
        ask(6, Calls.STEPS);
        // Those that can't be asked for count as well.
        ask(true, Calls.TRIM, 0, 63);
        ask(0, Calls.FETCH, 0, 63);
        ask(6, Calls.STEPS);
    }

    @Sentence("but for that of revision 0")
    void promise08_revision0IsNoStep() {
        beginWithTexts("alpha", "beta", "gamma", "delta");
        ask(5, Calls.FETCH, 0, 0);
        ask(0, Calls.STEPS);
        ask(4, Calls.FETCH, 0, 1);
        ask(1, Calls.STEPS);
        ask(5, Calls.FETCH, 0, 2);
        ask(1, Calls.STEPS);
        ask(5, Calls.FETCH, 0, 3);
        ask(2, Calls.STEPS);
        ask(5, Calls.FETCH, 0, 0);
        ask(0, Calls.STEPS);
    }

    @Sentence("NONE if nothing was fetched.")
    void promise08_nothingWasFetched() {
        ask(NONE, Calls.STEPS);
        beginWithTexts("alpha");
        ask(NONE, Calls.STEPS);
        ask(NONE, Calls.FETCH, 0, 1);
        ask(NONE, Calls.FETCH, 1, 0);
        ask(5, Calls.COMMON, 0, 0, 0, 0);
        ask(NONE, Calls.STEPS);
        setPiece(0, 12);
        ask(BAD, Calls.FETCH, 0, 0);
        ask(NONE, Calls.STEPS);
    }

    @Sentence("IllegalStateException if it is down.")
    void promise08_throwsIfDown() {
        goDown();
        ask(DOWN, Calls.STEPS);
        ask(true, Calls.START);
        ask(NONE, Calls.STEPS);
        beginWithTexts("alpha", "beta");
        ask(4, Calls.FETCH, 0, 1);
        goDown();
        ask(DOWN, Calls.STEPS);
        ask(true, Calls.START);
        ask(1, Calls.STEPS);
    }

    /** Both ways round, since neither revision is before the other in this. */
    private void commonIs(int ahead, int behind, String one, String other) {
        beginWithTexts(one, other);
        ask(ahead, Calls.COMMON, 0, 0, 1, 0);
        ask(ahead, Calls.COMMON, 0, 1, 0, 0);
        ask(behind, Calls.COMMON, 0, 0, 1, 1);
        ask(behind, Calls.COMMON, 0, 1, 0, 1);
    }

    @Sentence("Two revisions of a document, which 0: how many bytes their texts have in common from the beginning on")
    void promise16_inCommonFromTheBeginning() {
        commonIs(0, 0, "abc", "xyz");
        commonIs(1, 0, "abc", "ayz");
        commonIs(2, 0, "abc", "abz");
        commonIs(3, 0, "abc", "abcz");
        commonIs(0, 0, "", "");
        commonIs(0, 0, "", "abc");
        commonIs(1, 0, "\u00ff", "\u00ff\0");
        commonIs(0, 0, "\u0080", "\0");
    }

    @Sentence("Two revisions of a document, which 0: how many bytes their texts have in common from the beginning on")
    void promise16_aRevisionWithItself() {
        beginWithTexts("abcd", "", rising(0, 256));
        ask(4, Calls.COMMON, 0, 0, 0, 0);
        ask(0, Calls.COMMON, 0, 0, 0, 1);
        ask(0, Calls.COMMON, 0, 1, 1, 0);
        ask(0, Calls.COMMON, 0, 1, 1, 1);
        ask(256, Calls.COMMON, 0, 2, 2, 0);
        ask(0, Calls.COMMON, 0, 2, 2, 1);
    }

    @Sentence("1: behind these, from the end on")
    void promise16_behindTheseFromTheEnd() {
        commonIs(2, 2, "abXcd", "abYYcd");
        commonIs(0, 1, "Xd", "Yd");
        commonIs(0, 0, "dX", "YdZ");
        commonIs(1, 1, "aXb", "aYb");
        commonIs(0, 3, "bcd", "abcd");
        commonIs(128, 127, rising(0, 256), rising(0, 128) + "\0" + rising(129, 127));
        commonIs(0, 255, rising(0, 256), "x" + rising(1, 255));
        commonIs(255, 0, rising(0, 256), rising(0, 255) + "x");
    }

    @Sentence("(no byte counts twice in either).")
    void promise16_noByteCountsTwice() {
        commonIs(4, 0, "aaaa", "aaaaa");
        commonIs(4, 0, "aaaa", "aaaa");
        commonIs(2, 1, "aba", "abba");
        commonIs(3, 2, "ababa", "abaXba");
        commonIs(1, 0, "a", "aa");
        commonIs(2, 2, "abab", "abXab");
        commonIs(3, 0, "aba", "ababa");
        commonIs(255, 0, run('a', 255), run('a', 256));
    }

    @Sentence("NONE if one can't be asked for")
    void promise16_oneThatCannotBeAskedFor() {
        beginWithTexts("abcd", "abce", "abcf", "abcg");
        ask(true, Calls.TRIM, 0, 1);
        for (int r : new int[] {LOWEST, -1, 0, 4, 64, HIGHEST}) {
            for (int which = 0; which < 2; which++) {
                ask(NONE, Calls.COMMON, 0, r, 1, which);
                ask(NONE, Calls.COMMON, 0, 3, r, which);
                ask(NONE, Calls.COMMON, 0, r, r, which);
            }
        }
        ask(3, Calls.COMMON, 0, 1, 3, 0);
        ask(1, Calls.MAKE);
        ask(NONE, Calls.COMMON, 1, 0, 0, 0);
    }

    @Sentence("NONE if one can't be asked for")
    void promise16_noRevision64Of64() {
        beginWithRevisionsOf20Bytes(64);
        ask(3, Calls.COMMON, 0, 62, 63, 0);
        ask(NONE, Calls.COMMON, 0, 63, 64, 0);
        ask(NONE, Calls.COMMON, 0, 64, 63, 0);
    }

    @Sentence("for another which")
    void promise16_anotherWhich() {
        beginWithTexts("abcd", "abxcd");
        ask(2, Calls.COMMON, 0, 0, 1, 0);
        ask(2, Calls.COMMON, 0, 0, 1, 1);
        for (int which : new int[] {LOWEST, -1, 2, 3, HIGHEST}) {
            ask(NONE, Calls.COMMON, 0, 0, 1, which);
        }
    }

    @Sentence("or no such document")
    void promise16_noSuchDocument() {
        beginWithTexts("abcd");
        for (int d : new int[] {LOWEST, -1, 1, 7, 8, HIGHEST}) {
            ask(NONE, Calls.COMMON, d, 0, 0, 0);
            ask(NONE, Calls.COMMON, d, 0, 0, 1);
        }
        ask(4, Calls.COMMON, 0, 0, 0, 0);
        ask(true, Calls.DROP, 0);
        ask(NONE, Calls.COMMON, 0, 0, 0, 0);
    }

    @Sentence("BAD if one can't be made again.")
    void promise16_eitherCannotBeMadeAgain() {
        beginWithTexts("abcd", "abce", "abcf");
        setPiece(1, 9, 9);
        for (int which = 0; which < 2; which++) {
            ask(BAD, Calls.COMMON, 0, 1, 2, which);
            ask(BAD, Calls.COMMON, 0, 2, 1, which);
            ask(BAD, Calls.COMMON, 0, 1, 1, which);
        }
        ask(3, Calls.COMMON, 0, 0, 2, 0);
        // What can't be asked for, and another which, are NONE all the same.
        ask(NONE, Calls.COMMON, 0, 1, 3, 0);
        ask(NONE, Calls.COMMON, 0, 3, 1, 0);
        for (int which : WRONG) {
            ask(NONE, Calls.COMMON, 0, 1, 1, which);
        }
    }

    @Sentence("THE TEXT stays.")
    void promise16_theTextStays() {
        beginWithTexts("abcd", "abXcd", "a", "other");
        ask(5, Calls.FETCH, 0, 3);
        ask(2, Calls.COMMON, 0, 0, 1, 0);
        ask(2, Calls.COMMON, 0, 0, 1, 1);
        ask(NONE, Calls.COMMON, 0, 0, 4, 0);
        setPiece(2, 9);
        ask(BAD, Calls.COMMON, 0, 0, 2, 0);
        fetchedIs("other");
        ask(2, Calls.STEPS);
    }

    @Sentence("IllegalStateException if it is down.")
    void promise16_throwsIfDown() {
        beginWithTexts("abcd");
        goDown();
        ask(DOWN, Calls.COMMON, 0, 0, 0, 0);
        ask(DOWN, Calls.COMMON, 1, 0, 0, 0);
        ask(DOWN, Calls.COMMON, 0, 0, 1, 2);
        ask(true, Calls.START);
        ask(4, Calls.COMMON, 0, 0, 0, 0);
    }
}
