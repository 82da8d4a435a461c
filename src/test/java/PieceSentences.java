/** The sentences of "Terms" from the buffer to the sum of a text. */
final class PieceSentences extends Asking {
    PieceSentences(Checks checks) {
        super(checks);
    }

    /** A new object whose document has a base, as revision 0, and a text, as revision 1. */
    private void pieceOn(String base, String text, int... piece) {
        beginWithDocument();
        commitText(0, base);
        commitText(1, text);
        pieceIs(1, piece);
        ask(text.length(), Calls.FETCH, 0, 1);
        ask(NONE, Calls.VERIFY, 0);
    }

    /** Of a long piece, how many bytes it has and those it begins with. */
    private void pieceBegins(int revision, int length, int... bytes) {
        ask(length, Calls.REVISION, 0, revision, 0);
        for (int i = 0; i < bytes.length; i++) {
            ask(bytes[i], Calls.PIECE_BYTE, 0, revision, i);
        }
        ask(NONE, Calls.PIECE_BYTE, 0, revision, length);
        ask(NONE, Calls.VERIFY, 0);
    }

    @Sentence("All memory is its own.")
    void terms_twoObjectsShareNothing() {
        TextKeeper other = new TextKeeper();
        Calls.answer(other, Calls.FEED, 1, 2, 3, 4, 5);
        ask(0, Calls.MAKE);
        bufferHas(0);
        commitText(0, "one");
        due("freeBlocks() of another", other.freeBlocks(), 512);
        due("make() of another", other.make(), 0);
        due("commit(0, 1) of another", other.commit(0, 1), 0);
        due("fetch(0, 0) of another", other.fetch(0, 0), 20);
        due("cutAfter(0) of another", other.cutAfter(0), true);
        ask(NONE, Calls.STEPS);
        ask(1, Calls.MAKE);
        due("make() of another", Calls.answer(other, Calls.MAKE), DOWN);
        ask(false, Calls.IS_DOWN);
        textIs(0, 0, "one");
        due("isDown() of another", other.isDown(), true);
    }

    @Sentence("(none at first)")
    void terms_bufferHasNoBytesAtFirst() {
        bufferHas(0);
        ask(0, Calls.MAKE);
        ask(0, Calls.COMMIT, 0, 1);
        ask(0, Calls.FETCH, 0, 0);
    }

    @Sentence("THE BUFFER has 0 to 256 bytes")
    void terms_bufferHasUpTo256Bytes() {
        for (int n : new int[] {0, 1, 255, 256}) {
            begin();
            fill(run('a', n));
            bufferHas(n);
        }
        ask(false, Calls.FEED, 0, 0, 0, 0, 0);
        bufferHas(256);
    }

    @Sentence("There are DOCUMENTS 0, 1, .. 7, in the order in which they are made")
    void terms_documents0To7InTheOrderOfMaking() {
        for (int d = 0; d < 8; d++) {
            ask(NO_SUCH, Calls.ABOUT, d, 1);
            ask(d, Calls.MAKE);
            ask(NONE, Calls.ABOUT, d, 1);
        }
        ask(NONE, Calls.MAKE);
        ask(NO_SUCH, Calls.ABOUT, -1, 1);
        ask(NO_SUCH, Calls.ABOUT, 8, 1);
        fill("seven");
        ask(0, Calls.COMMIT, 7, 1);
        ask(NONE, Calls.FETCH, 6, 0);
        textIs(7, 0, "seven");
    }

    /** Each call that names a document, of the last one and of those beside 0 and 7. */
    @Sentence("There are DOCUMENTS 0, 1, .. 7, in the order in which they are made")
    void terms_document7ButNoneBelow0OrAbove7() {
        for (int d = 0; d < 8; d++) {
            ask(d, Calls.MAKE);
        }
        commitText(7, 0, "abcd");
        commitText(7, 1, "abXcd");
        for (int d : new int[] {-1, 8}) {
            ask(NONE, Calls.COMMIT, d, 1);
            ask(NONE, Calls.FETCH, d, 0);
            ask(NO_SUCH, Calls.REVISION, d, 0, 0);
            ask(NONE, Calls.PIECE_BYTE, d, 0, 0);
            ask(false, Calls.DAMAGE, d, 0, 0, 1);
            ask(NONE, Calls.VERIFY, d);
            ask(NONE, Calls.COMMON, d, 0, 1, 0);
            ask(false, Calls.TRIM, d, 0);
            ask(false, Calls.DROP, d);
        }
        ask(101, Calls.REVISION, 7, 1, 1);
        ask(8, Calls.PIECE_BYTE, 7, 0, 0);
        ask(2, Calls.COMMON, 7, 0, 1, 1);
        ask(true, Calls.DAMAGE, 7, 1, 1, 1);
        ask(1, Calls.VERIFY, 7);
        ask(true, Calls.TRIM, 7, 1);
        ask(1, Calls.ABOUT, 7, 0);
        ask(true, Calls.DROP, 7);
        ask(NO_SUCH, Calls.ABOUT, 7, 0);
        ask(0, Calls.ABOUT, 6, 0);
    }

    @Sentence("each has REVISIONS 0, 1, .. 63")
    void terms_revisions0To63OfEachDocument() {
        ask(0, Calls.MAKE);
        ask(1, Calls.MAKE);
        for (int r = 0; r < 64; r++) {
            ask(r, Calls.COMMIT, 0, r);
            ask(r, Calls.COMMIT, 1, r);
        }
        for (int d = 0; d < 2; d++) {
            ask(NONE, Calls.COMMIT, d, 64);
            ask(NONE, Calls.FETCH, d, -1);
            ask(0, Calls.FETCH, d, 0);
            ask(0, Calls.FETCH, d, 63);
            ask(NONE, Calls.FETCH, d, 64);
        }
    }

    @Sentence("texts of 0 to 256 bytes")
    void terms_textsOf0To256Bytes() {
        ask(0, Calls.MAKE);
        int[] lengths = {0, 1, 255, 256};
        for (int r = 0; r < lengths.length; r++) {
            commitText(r, rising(0, lengths[r]));
        }
        for (int r = 0; r < lengths.length; r++) {
            ask(lengths[r], Calls.FETCH, 0, r);
            ask(lengths[r] - 1, Calls.OUT, lengths[r] - 1);
            ask(NONE, Calls.OUT, lengths[r]);
        }
    }

    @Sentence("with an AUTHOR (an int) each.")
    void terms_anyIntIsAnAuthor() {
        ask(0, Calls.MAKE);
        int[] authors = {LOWEST, LOWEST + 1, -2, -1, 0, 1, HIGHEST - 1, HIGHEST};
        for (int r = 0; r < authors.length; r++) {
            ask(r, Calls.COMMIT, 0, authors[r]);
        }
        for (int r = 0; r < authors.length; r++) {
            ask(authors[r], Calls.REVISION, 0, r, 1);
        }
    }

    /** Each text begins with four bytes of its own; those of its base come behind, to be copied. */
    @Sentence("THE BASE of revision r, above 0, is revision r with its lowest set bit cleared")
    void terms_baseOfEachRevisionAbove0() {
        ask(0, Calls.MAKE);
        for (int r = 0; r < 64; r++) {
            int base = r - Integer.lowestOneBit(r);
            ask(true, Calls.FEED, ownBytes(r), ownBytes(base), 0, 0, 0);
            ask(true, Calls.END, r == 0 ? 4 : 8);
            ask(r, Calls.COMMIT, 0, r);
        }
        for (int r = 1; r < 64; r++) {
            // INSERT 4, its own bytes, COPY 4 from place 0.
            ask(7, Calls.REVISION, 0, r, 0);
            ask(9, Calls.PIECE_BYTE, 0, r, 5);
            ask(0, Calls.PIECE_BYTE, 0, r, 6);
        }
    }

    private static int ownBytes(int r) {
        return 0x41004200 + r * 0x10001;
    }

    @Sentence("that of revision 0 is the empty text.")
    void terms_baseOfRevision0IsEmpty() {
        ask(0, Calls.MAKE);
        ask(1, Calls.MAKE);
        commitText(1, 0, "abcdabcdabcd");
        commitText(0, "abcdabcdabcd");
        pieceBegins(0, 13, 24, 'a', 'b', 'c', 'd', 'a', 'b', 'c', 'd', 'a', 'b', 'c', 'd');
    }

    /** Nor is it the text that was made last. */
    @Sentence("that of revision 0 is the empty text.")
    void terms_revision0HasNothingToCopyFrom() {
        beginWithTexts("abc");
        ask(1, Calls.MAKE);
        commitText(1, 0, "another text");
        setPiece(0, 2, 'x', 3, 0);
        for (int k = 0; k < 3; k++) {
            ask(12, Calls.FETCH, 1, 0);
            ask(BAD, Calls.FETCH, 0, 0);
        }
        setPiece(0, 2, 'x', 2, 'y');
        textIs(0, 0, "xy");
    }

    @Sentence("A PIECE is a row of commands that make a text, from the left on, out of its base")
    void terms_commandsMakeTheTextFromTheLeft() {
        pieceOn("abcdefgh", "efghXabcd", 9, 4, 2, 'X', 9, 0);
        textIs(0, 1, "efghXabcd");
        setPiece(1, 9, 0, 2, 'Y', 9, 4);
        textIs(0, 1, "abcdYefgh");
    }

    @Sentence("INSERT n: n bytes follow")
    void terms_insertIsTheBytesThatFollow() {
        pieceOn("", "x", 2, 'x');
        textIs(0, 1, "x");
        pieceOn("", "x\0\u00ff", 6, 'x', 0, 255);
        textIs(0, 1, "x\0\u00ff");
    }

    @Sentence("COPY n from place p: n bytes of the base from p (0 is its first) on.")
    void terms_copyIsFromPlace0Or1OrTheLast() {
        pieceOn("abcdef", "abcd", 9, 0);
        pieceOn("abcdef", "bcde", 9, 1);
        pieceOn("abcdef", "cdef", 9, 2);
        setPiece(1, 3, 0);
        textIs(0, 1, "a");
        setPiece(1, 3, 5);
        textIs(0, 1, "f");
    }

    @Sentence("NUMBERS are written in base 128, the lowest digit first, each but the last with 128 added")
    void terms_numbersBelowAndFrom128On() {
        pieceOn("", run('a', 63), insert(run('a', 63), 126));
        pieceOn("", run('a', 64), insert(run('a', 64), 128, 1));
        pieceOn("", run('a', 65), insert(run('a', 65), 130, 1));
        pieceOn("", run('a', 127), insert(run('a', 127), 254, 1));
        pieceOn("", run('a', 128), insert(run('a', 128), 128, 2));
    }

    @Sentence("NUMBERS are written in base 128, the lowest digit first, each but the last with 128 added")
    void terms_numbersOfTheLongestTexts() {
        ask(0, Calls.MAKE);
        commitText(0, rising(0, 255));
        pieceBegins(0, 257, 254, 3, 0, 1);
        beginWithDocument();
        commitText(0, rising(0, 256));
        pieceBegins(0, 258, 128, 4, 0, 1);
        commitText(1, rising(0, 256));
        pieceIs(1, 129, 4, 0);
        commitText(2, rising(1, 255));
        pieceIs(2, 255, 3, 1);
    }

    @Sentence("INSERT is the number 2 * n and the bytes")
    void terms_insertHasAnEvenNumber() {
        pieceOn("", "a", insert("a", 2));
        pieceOn("", "ab", insert("ab", 4));
        pieceOn("", run('z', 100), insert(run('z', 100), 200, 1));
    }

    @Sentence("COPY the numbers 2 * n + 1 and p.")
    void terms_copyHasAnOddNumberAndThePlace() {
        pieceOn(rising(0, 200), rising(1, 4), 9, 1);
        pieceOn(rising(0, 200), rising(1, 63), 127, 1);
        pieceOn(rising(0, 200), rising(1, 64), 129, 1, 1);
        pieceOn(rising(0, 200), rising(1, 127), 255, 1, 1);
        pieceOn(rising(0, 200), rising(1, 128), 129, 2, 1);
        pieceOn(rising(0, 200), rising(126, 4), 9, 126);
        pieceOn(rising(0, 200), rising(127, 4), 9, 127);
        pieceOn(rising(0, 200), rising(128, 4), 9, 128, 1);
        pieceOn(rising(0, 200), rising(129, 4), 9, 129, 1);
        pieceOn(rising(0, 256), rising(251, 4), 9, 251, 1);
        pieceOn(rising(0, 256), rising(252, 4), 9, 252, 1);
    }

    private static int[] insert(String text, int... number) {
        int[] piece = java.util.Arrays.copyOf(number, number.length + text.length());
        for (int i = 0; i < text.length(); i++) {
            piece[number.length + i] = text.charAt(i);
        }
        return piece;
    }

    @Sentence("The piece of a text: at its place i, from 0 on, let n be the longest run of bytes from i on"
        + " that stands somewhere in the base")
    void terms_theLongestRunIsTaken() {
        String base = "abcdXabcdeYabcdefZabcde";
        pieceOn(base, "abcdefg", 13, 11, 2, 'g');
        pieceOn(base, "abcdef", 13, 11);
        pieceOn(base, "cdef", 9, 13);
        pieceOn("\u00fe\u00ff\0\u0080-\u00fe\u00ff\0\u0080\u007f", "\u00fe\u00ff\0\u0080\u007f", 11, 5);
    }

    @Sentence("(within both)")
    void terms_aRunEndsWithTheBase() {
        pieceOn("abcdefgh", "efghabcd", 9, 4, 9, 0);
        pieceOn("abcdefgh", "efghi", 9, 4, 2, 'i');
        pieceOn("aaaa", "aaaaaaaaa", 9, 0, 9, 0, 2, 'a');
        pieceOn("abc", "abc", 6, 'a', 'b', 'c');
    }

    /** Where the base is held, there may be zeroes behind it, or the rest of a longer text. */
    @Sentence("(within both)")
    void terms_whatIsBehindTheBaseIsNoPartOfIt() {
        pieceOn("", "\0\0\0\0\0", 10, 0, 0, 0, 0, 0);
        pieceOn("Xabcd", "abcd\0\0\0\0", 9, 1, 8, 0, 0, 0, 0);
        beginWithTexts("Xabcd", "Xabcdefgh", "Xabcdefgh", "Xabcdefgh");
        ask(9, Calls.FETCH, 0, 3);
        commitText(4, "abcdefgh");
        pieceIs(4, 9, 1, 8, 'e', 'f', 'g', 'h');
    }

    @Sentence("(within both)")
    void terms_aRunEndsWithTheText() {
        pieceOn("abcdefgh", "abcd", 9, 0);
        pieceOn("abcdefgh", "Xabcde", 2, 'X', 11, 0);
        pieceOn("abcd\0\0\0\0", "abcd", 9, 0);
        pieceOn("\0\0\0\0", "\0\0\0", 6, 0, 0, 0);
    }

    @Sentence("p the lowest place where it does")
    void terms_theLowestPlaceIsTaken() {
        String base = "abcdXabcdeYabcdefZabcde";
        pieceOn(base, "abcdQ", 9, 0, 2, 'Q');
        pieceOn(base, "abcdeQ", 11, 5, 2, 'Q');
        pieceOn("aaaaaaaa", "aaaaa", 11, 0);
        pieceOn("Xaaaaaaa", "aaaaa", 11, 1);
        pieceOn("abababab", "baba", 9, 1);
    }

    @Sentence("if n is 4 or more, COPY n from p")
    void terms_runsOf3And4And5() {
        pieceOn("abcdefgh", "bcd", 6, 'b', 'c', 'd');
        pieceOn("abcdefgh", "bcdX", 8, 'b', 'c', 'd', 'X');
        pieceOn("abcdefgh", "fgh", 6, 'f', 'g', 'h');
        pieceOn("abcdefgh", "bcde", 9, 1);
        pieceOn("abcdefgh", "bcdeX", 9, 1, 2, 'X');
        pieceOn("abcdefgh", "efgh", 9, 4);
        pieceOn("abcdefgh", "bcdef", 11, 1);
        pieceOn("abcd", "abcd", 9, 0);
    }

    @Sentence("and on behind them")
    void terms_goesOnBehindTheCopiedBytes() {
        // It is not looked for a longer run that begins within the copied bytes.
        pieceOn("abcdefg-efghijkl", "abcdefghijkl", 15, 0, 11, 11);
        pieceOn("abcd?bcdefghij", "abcdefghij", 9, 0, 13, 8);
        pieceOn("abcd?bcdefg", "abcdefg", 9, 0, 6, 'e', 'f', 'g');
    }

    @Sentence("else the byte at i is inserted")
    void terms_oneByteIsInsertedThenTheNextLookedAt() {
        // The run at a is of three bytes; the one behind a is longer.
        pieceOn("abcXbcdefg", "abcdefg", 2, 'a', 13, 4);
        pieceOn("abcXbcdYcdef", "abcdef", 4, 'a', 'b', 9, 8);
    }

    @Sentence("(those side by side by one INSERT).")
    void terms_insertsSideBySideAreOne() {
        pieceOn("abcd", "XYabcdZ", 4, 'X', 'Y', 9, 0, 2, 'Z');
        pieceOn("abcd", "abcdZXabcd", 9, 0, 4, 'Z', 'X', 9, 0);
        pieceOn("abcd", "abcXabcd", 8, 'a', 'b', 'c', 'X', 9, 0);
        pieceOn("abcd", "XYZ", 6, 'X', 'Y', 'Z');
    }

    /** INSERT 64 takes 66 bytes and COPY from 128 on three: with four bytes copied, one too many. */
    @Sentence("If that has more bytes than one INSERT of the whole text, it is this.")
    void terms_oneByteMoreThanTheWhole() {
        beginWithDocument();
        commitText(0, rising(0, 200));
        commitText(1, run(250, 64) + rising(150, 4) + run(251, 64));
        pieceBegins(1, 134, 136, 2, 250);
        ask(250, Calls.PIECE_BYTE, 0, 1, 65);
        ask(150, Calls.PIECE_BYTE, 0, 1, 66);
        ask(251, Calls.PIECE_BYTE, 0, 1, 133);
    }

    @Sentence("If that has more bytes than one INSERT of the whole text, it is this.")
    void terms_asManyBytesAsTheWhole() {
        beginWithDocument();
        commitText(0, rising(0, 200));
        commitText(1, run(250, 64) + rising(50, 4) + run(251, 64));
        pieceBegins(1, 134, 128, 1, 250);
        ask(9, Calls.PIECE_BYTE, 0, 1, 66);
        ask(50, Calls.PIECE_BYTE, 0, 1, 67);
        ask(128, Calls.PIECE_BYTE, 0, 1, 68);
        ask(1, Calls.PIECE_BYTE, 0, 1, 69);
        ask(251, Calls.PIECE_BYTE, 0, 1, 70);
        pieceOn(rising(0, 200), "\u00fa" + rising(150, 4) + "\u00fa", 2, 250, 9, 150, 1, 2, 250);
        // 66 + 3 + 2 bytes, and the whole's 69 have a number of two bytes.
        beginWithDocument();
        commitText(0, rising(0, 200));
        commitText(1, run(250, 64) + rising(150, 4) + "\u00fb");
        pieceBegins(1, 71, 128, 1, 250);
        ask(9, Calls.PIECE_BYTE, 0, 1, 66);
        ask(2, Calls.PIECE_BYTE, 0, 1, 69);
    }

    @Sentence("If that has more bytes than one INSERT of the whole text, it is this.")
    void terms_oneByteLessThanTheWhole() {
        beginWithDocument();
        commitText(0, rising(0, 200));
        commitText(1, run(250, 64) + rising(150, 6) + run(251, 64));
        pieceBegins(1, 135, 128, 1, 250);
        ask(13, Calls.PIECE_BYTE, 0, 1, 66);
        ask(150, Calls.PIECE_BYTE, 0, 1, 67);
        ask(1, Calls.PIECE_BYTE, 0, 1, 68);
        ask(128, Calls.PIECE_BYTE, 0, 1, 69);
        pieceOn(rising(0, 200), "\u00fa" + rising(50, 4) + "\u00fa", 2, 250, 9, 50, 2, 250);
    }

    @Sentence("The empty text's piece has no bytes.")
    void terms_theEmptyTextHasAnEmptyPiece() {
        pieceOn("", "");
        pieceOn("abcd", "");
        ask(NONE, Calls.PIECE_BYTE, 0, 1, 0);
        ask(511, Calls.FREE);
        pieceOn("abcd", "a", 2, 'a');
    }

    private void sumIs(int sum, String text) {
        beginWithDocument();
        commitText(0, text);
        ask(sum, Calls.REVISION, 0, 0, 2);
        ask(NONE, Calls.VERIFY, 0);
    }

    @Sentence("The SUM of a text: s is 0")
    void terms_sumOfTheEmptyText() {
        sumIs(0, "");
    }

    @Sentence("for each byte (0 .. 255) s becomes s * 31 + byte + 1")
    void terms_sumOfTheLeastAndGreatestBytes() {
        sumIs(1, "\0");
        sumIs(32, "\0\0");
        sumIs(2, "\u0001");
        sumIs(128, "\u007f");
        sumIs(129, "\u0080");
        sumIs(255, "\u00fe");
        sumIs(256, "\u00ff");
        sumIs(256 * 31 + 1, "\u00ff\0");
        sumIs(1 * 31 + 256, "\0\u00ff");
    }

    @Sentence("(ints that run over).")
    void terms_sumsThatRunOver() {
        long greatest = HIGHEST;
        sumIs(HIGHEST - 1, textOfSum(greatest - 1));
        sumIs(HIGHEST, textOfSum(greatest));
        sumIs(LOWEST, textOfSum(greatest + 1));
        sumIs(-1, textOfSum(2 * greatest + 1));
        sumIs(0, textOfSum(2 * greatest + 2));
        sumIs(1, textOfSum(2 * greatest + 3));
        sumIs(244302080, run(255, 5));
        sumIs(-1016569856, run(255, 6));
        sumIs(Model.sumOf(run(255, 256)), run(255, 256));
    }

    /** A text whose sum would be this if it did not run over: its bytes are the digits 1 to 31. */
    private static String textOfSum(long sum) {
        StringBuilder text = new StringBuilder();
        for (long rest = sum; rest > 0; rest = (rest - 1) / 31) {
            text.insert(0, (char) ((rest - 1) % 31));
        }
        return text.toString();
    }
}
