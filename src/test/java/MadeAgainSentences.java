/** The sentence of "Terms" that says when a text is made again, and when that can't be. */
final class MadeAgainSentences extends Asking {
    private static final String BASE = "abcdef";

    MadeAgainSentences(Checks checks) {
        super(checks);
    }

    /** A new object whose revision 1 has this piece, by damage, and revision 0 is its base. */
    private void beginWithPiece(String base, int... piece) {
        beginWithDocument();
        commitText(0, base);
        // One INSERT of these bytes has as many as the piece is to have.
        commitText(1, run(0xee, piece.length - 1));
        setPiece(1, piece);
    }

    private void makes(String text, String base, int... piece) {
        beginWithPiece(base, piece);
        textIs(0, 1, text);
    }

    private void makesOfLength(int length, String base, int... piece) {
        beginWithPiece(base, piece);
        ask(length, Calls.FETCH, 0, 1);
        ask(NONE, Calls.OUT, length);
    }

    private void cannotBeMade(String base, int... piece) {
        beginWithPiece(base, piece);
        ask(BAD, Calls.FETCH, 0, 1);
        ask(base.length(), Calls.FETCH, 0, 0);
    }

    @Sentence("A text is MADE AGAIN from its base, made again before it, and its piece")
    void terms_madeAgainFromBaseAndPiece() {
        makes("abcdef", BASE, 13, 0);
        setPiece(0, 12, 'A', 'B', 'C', 'D', 'E', 'F');
        textIs(0, 1, "ABCDEF");
        setPiece(1, 5, 2);
        textIs(0, 1, "CD");
        makes("defXabc", BASE, 7, 3, 2, 'X', 7, 0);
    }

    @Sentence("A text is MADE AGAIN from its base, made again before it, and its piece")
    void terms_withoutItsBaseEvenAnInsertIsNotMade() {
        ask(0, Calls.MAKE);
        commitText(0, "first");
        commitText(1, "SECOND");
        commitText(2, "third!");
        commitText(3, "4th of all");
        commitText(4, "");
        setPiece(2, 14);
        // 3 is made out of 2 and 0; 1 and 4 out of 0 alone.
        ask(5, Calls.FETCH, 0, 0);
        ask(6, Calls.FETCH, 0, 1);
        ask(BAD, Calls.FETCH, 0, 2);
        ask(BAD, Calls.FETCH, 0, 3);
        ask(0, Calls.FETCH, 0, 4);
        setPiece(0, 12);
        for (int r = 0; r < 5; r++) {
            ask(BAD, Calls.FETCH, 0, r);
        }
        setPiece(0, 10);
        setPiece(2, 12);
        textIs(0, 3, "4th of all");
    }

    /** Cutting off keeps what is needed, so a lack of it can't be brought about: nothing is BAD. */
    @Sentence("that can't be, if a base or piece it needs is not kept")
    void terms_whatIsNeededIsKept() {
        for (int first = 0; first < 16; first++) {
            beginWithRevisionsOf20Bytes(16);
            ask(true, Calls.TRIM, 0, first);
            for (int r = 0; r < 16; r++) {
                ask(r < first ? NONE : 20, Calls.FETCH, 0, r);
            }
            ask(16, Calls.COMMIT, 0, 1);
            ask(17, Calls.COMMIT, 0, 1);
            ask(NONE, Calls.VERIFY, 0);
        }
    }

    @Sentence("if a number has more than 3 bytes")
    void terms_insertsNumberOf1To3And4Bytes() {
        makes("xy", BASE, 4, 'x', 'y');
        makes("xy", BASE, 0x84, 0, 'x', 'y');
        makes("xy", BASE, 0x84, 0x80, 0, 'x', 'y');
        cannotBeMade(BASE, 0x84, 0x80, 0x80, 0, 'x', 'y');
        // The third byte is not the last, though what follows would do for two bytes.
        cannotBeMade(BASE, 0x84, 0x80, 0x80, 'x', 'y');
        cannotBeMade(BASE, 0x84, 0x80, 0x80, 0x80, 0, 'x', 'y');
    }

    @Sentence("if a number has more than 3 bytes")
    void terms_copysNumberOf1To3And4Bytes() {
        makes("bc", BASE, 5, 1);
        makes("bc", BASE, 0x85, 0, 1);
        makes("bc", BASE, 0x85, 0x80, 0, 1);
        cannotBeMade(BASE, 0x85, 0x80, 0x80, 0, 1);
        cannotBeMade(BASE, 0x85, 0x80, 0x80, 1);
    }

    @Sentence("if a number has more than 3 bytes")
    void terms_copysPlaceOf1To3And4Bytes() {
        makes("bc", BASE, 5, 1);
        makes("bc", BASE, 5, 0x81, 0);
        makes("bc", BASE, 5, 0x81, 0x80, 0);
        cannotBeMade(BASE, 5, 0x81, 0x80, 0x80, 0);
        cannotBeMade(BASE, 5, 0x81, 0x80, 0x80, 2, 'x');
    }

    @Sentence("or the piece ends in it")
    void terms_thePieceEndsInTheFirstNumber() {
        makes("a", BASE, 2, 'a');
        cannotBeMade(BASE, 2, 'a', 0x80);
        cannotBeMade(BASE, 2, 'a', 0x82);
        cannotBeMade(BASE, 2, 'a', 0x82, 0x80);
        cannotBeMade(BASE, 0xff, 0xff);
        cannotBeMade(BASE, 0x82, 0x80);
    }

    @Sentence("or the piece ends in it")
    void terms_thePieceEndsBeforeOrInThePlace() {
        makes("aab", BASE, 2, 'a', 5, 0);
        cannotBeMade(BASE, 2, 'a', 5);
        cannotBeMade(BASE, 2, 'a', 5, 0x80);
        cannotBeMade(BASE, 2, 'a', 5, 0x81);
        cannotBeMade(BASE, 2, 'a', 5, 0x81, 0x80);
        makes("abc", BASE, 2, 'a', 5, 0x81, 0);
    }

    @Sentence("if a command goes beyond its base")
    void terms_copyUpToTheEndOfTheBaseAndBeyond() {
        makes("bcde", BASE, 9, 1);
        makes("bcdef", BASE, 11, 1);
        cannotBeMade(BASE, 13, 1);
        makes("abcdef", BASE, 13, 0);
        cannotBeMade(BASE, 15, 0);
    }

    @Sentence("if a command goes beyond its base")
    void terms_copyFromTheLastPlaceAndBeyond() {
        makes("e", BASE, 3, 4);
        makes("f", BASE, 3, 5);
        cannotBeMade(BASE, 3, 6);
        cannotBeMade(BASE, 3, 7);
        cannotBeMade(BASE, 3, 0xff, 0xff, 0x7f);
        cannotBeMade(BASE, 0xff, 0xff, 0x7f, 0);
        cannotBeMade(BASE, 0xff, 0xff, 0x7f, 0xff, 0xff, 0x7f);
    }

    @Sentence("if a command goes beyond its base")
    void terms_copyOfTheEmptyBase() {
        makes("x", "", 2, 'x');
        cannotBeMade("", 3, 0);
        cannotBeMade("", 2, 'x', 3, 0);
    }

    @Sentence("if a command goes beyond its base")
    void terms_copyOfABaseOf256Bytes() {
        makesOfLength(255, rising(0, 256), 0xff, 3, 1);
        makesOfLength(256, rising(0, 256), 0x81, 4, 0);
        cannotBeMade(rising(0, 256), 0x83, 4, 0);
        cannotBeMade(rising(0, 256), 0x81, 4, 1);
        makes("\u00ff", rising(0, 256), 3, 0xff, 1);
        cannotBeMade(rising(0, 256), 3, 0x80, 2);
    }

    /** What the base was before is not copied, nor what another text left behind it. */
    @Sentence("if a command goes beyond its base")
    void terms_copyBeyondABaseThatWasLonger() {
        beginWithPiece(BASE, 13, 0);
        setPiece(0, 2, 'a', 2, 'b', 2, 'c');
        ask(BAD, Calls.FETCH, 0, 0);
        setPiece(0, 12, 'a', 'b', 'c', 'd', 'e', 'f');
        textIs(0, 1, "abcdef");
        // INSERT 2, INSERT 3: the base has a byte less now.
        setPiece(0, 4, 'a', 'b', 6, 'd', 'e', 'f');
        ask(5, Calls.FETCH, 0, 0);
        ask(BAD, Calls.FETCH, 0, 1);
        setPiece(1, 11, 0);
        textIs(0, 1, "abdef");
    }

    @Sentence("the end of the piece")
    void terms_insertUpToTheEndOfThePieceAndBeyond() {
        makes("xy", BASE, 4, 'x', 'y');
        cannotBeMade(BASE, 6, 'x', 'y');
        makes("xy", BASE, 2, 'x', 2, 'y');
        cannotBeMade(BASE, 2, 'x', 4, 'y');
        cannotBeMade(BASE, 2, 'x', 2);
        cannotBeMade(BASE, 0xfe, 0xff, 0x7f, 'x');
    }

    /** Twice 128 bytes are 256; the last byte comes by COPY or by INSERT. */
    @Sentence("or 256 bytes of text")
    void terms_textsOf255And256And257BytesByCopy() {
        String base = rising(0, 128);
        makesOfLength(255, base, 0x81, 2, 0, 0xff, 1, 0);
        makesOfLength(256, base, 0x81, 2, 0, 0x81, 2, 0);
        makesOfLength(256, base, 0x81, 2, 0, 0xff, 1, 0, 3, 0);
        cannotBeMade(base, 0x81, 2, 0, 0x81, 2, 0, 3, 0);
        cannotBeMade(base, 0x81, 2, 0, 0xff, 1, 0, 5, 0);
        cannotBeMade(base, 0x81, 2, 0, 0x81, 2, 0, 0x81, 2, 0);
    }

    @Sentence("or 256 bytes of text")
    void terms_textsOf255And256And257BytesByInsert() {
        String base = rising(0, 128);
        makesOfLength(256, base, 0x81, 2, 0, 0xff, 1, 0, 2, 'x');
        cannotBeMade(base, 0x81, 2, 0, 0xff, 1, 0, 4, 'x', 'y');
        cannotBeMade(base, 0x81, 2, 0, 0x81, 2, 0, 2, 'x');
        makesOfLength(255, base, 0x81, 2, 0, 0xfd, 1, 0, 2, 'x');
    }

    @Sentence("or 256 bytes of text")
    void terms_whatIsMadeFromATooLongTextIsNotMade() {
        beginWithDocument();
        commitText(0, rising(0, 128));
        commitText(1, run(0xee, 4));
        commitText(2, run(0xee, 7));
        commitText(3, "abcd");
        setPiece(2, 0x81, 2, 0, 0x81, 2, 0, 3, 0);
        ask(BAD, Calls.FETCH, 0, 2);
        ask(BAD, Calls.FETCH, 0, 3);
        ask(4, Calls.FETCH, 0, 1);
    }

    @Sentence("or makes none (n is 0).")
    void terms_insertOf0And1() {
        makes("x", BASE, 2, 'x');
        cannotBeMade(BASE, 0, 2, 'x');
        cannotBeMade(BASE, 2, 'x', 0);
        cannotBeMade(BASE, 0x80, 0, 2, 'x');
        cannotBeMade(BASE, 0x80, 0x80, 0, 2, 'x');
        cannotBeMade(BASE, 0, 0);
    }

    @Sentence("or makes none (n is 0).")
    void terms_copyOf0And1() {
        makes("ax", BASE, 3, 0, 2, 'x');
        cannotBeMade(BASE, 1, 0, 2, 'x');
        cannotBeMade(BASE, 2, 'x', 1, 0);
        cannotBeMade(BASE, 1, 6);
        cannotBeMade(BASE, 0x81, 0, 0, 2, 'x');
        cannotBeMade("", 1, 0);
    }
}
