/** The promises of the document one by one: ordinary calls, the edges it names, wrong inputs. */
public final class PromiseTest extends Asking {
    private PromiseTest(Checks checks) {
        super(checks);
    }

    public static void main(String[] args) {
        PromiseTest test = new PromiseTest(new Checks());
        test.newObject();
        test.feed();
        test.end();
        test.make();
        test.commit();
        test.commitRefused();
        test.pieces();
        test.piecesWithLongNumbers();
        test.pieceOrWhole();
        test.fetch();
        test.madeAgainOrNot();
        test.atMost256Bytes();
        test.outAndSteps();
        test.trim();
        test.dropDocument();
        test.about();
        test.revision();
        test.pieceByteAndDamage();
        test.verify();
        test.common();
        test.freeBlocks();
        test.cutAfter();
        test.powerGoesInEachWritingCall();
        test.downRefusesAll();
        test.startAndIsDown();
        test.checks.finish("PromiseTest");
    }

    private void newObject() {
        begin("1 new object");
        ask(false, Calls.IS_DOWN);
        ask(false, Calls.START);
        ask(512, Calls.FREE);
        ask(NONE, Calls.STEPS);
        ask(NONE, Calls.OUT, 0);
        for (int d = -1; d <= 8; d++) {
            ask(NO_SUCH, Calls.ABOUT, d, 0);
            ask(NONE, Calls.FETCH, d, 0);
            ask(NONE, Calls.COMMIT, d, 1);
        }
        ask(false, Calls.END, 1);
        ask(true, Calls.END, 0);
        ask(0, Calls.MAKE);
        due("NONE", TextKeeper.NONE, -1);
        due("BAD", TextKeeper.BAD, -2);
    }

    private void feed() {
        beginWithDocument("2 feed");
        ask(true, Calls.FEED, 0x01020384, 0xfffefdfc, 0, HIGHEST, LOWEST);
        ask(false, Calls.END, 21);
        ask(true, Calls.END, 20);
        ask(0, Calls.COMMIT, 0, 5);
        textIs(0, 0, "\u0001\u0002\u0003\u0084\u00ff\u00fe\u00fd\u00fc\0\0\0\0\u007f\u00ff\u00ff\u00ff\u0080\0\0\0");
        for (int k = 0; k < 12; k++) {
            ask(true, Calls.FEED, k, k, k, k, k);
        }
        ask(false, Calls.FEED, 9, 9, 9, 9, 9);
        ask(false, Calls.END, 241);
        ask(true, Calls.END, 237);
        ask(false, Calls.FEED, 9, 9, 9, 9, 9);
        ask(false, Calls.END, 238);
        ask(true, Calls.END, 236);
        ask(true, Calls.FEED, 9, 9, 9, 9, 9);
        ask(false, Calls.FEED, 9, 9, 9, 9, 9);
        ask(false, Calls.END, 257);
        ask(true, Calls.END, 256);
        ask(1, Calls.COMMIT, 0, 5);
        ask(256, Calls.FETCH, 0, 1);
        ask(11, Calls.OUT, 235);
        ask(0, Calls.OUT, 236);
        ask(9, Calls.OUT, 239);
        ask(9, Calls.OUT, 255);
    }

    private void end() {
        beginWithDocument("3 end");
        ask(true, Calls.FEED, 0x41424344, 0x45464748, 0, 0, 0);
        ask(false, Calls.END, -1);
        ask(false, Calls.END, LOWEST);
        ask(false, Calls.END, HIGHEST);
        ask(true, Calls.END, 20);
        ask(true, Calls.END, 3);
        ask(false, Calls.END, 4);
        ask(true, Calls.FEED, 0x58595a30, 0, 0, 0, 0);
        ask(true, Calls.END, 7);
        ask(0, Calls.COMMIT, 0, 1);
        textIs(0, 0, "ABCXYZ0");
        ask(false, Calls.END, 1);
        ask(true, Calls.END, 0);
    }

    private void make() {
        begin("4 make");
        for (int d = 0; d < 3; d++) {
            ask(d, Calls.MAKE);
            ask(NONE, Calls.ABOUT, d, 1);
        }
        ask(true, Calls.DROP, 1);
        ask(3, Calls.MAKE);
        ask(NO_SUCH, Calls.ABOUT, 1, 1);
        for (int d = 4; d < 8; d++) {
            ask(d, Calls.MAKE);
        }
        ask(NONE, Calls.MAKE);
        ask(true, Calls.DROP, 7);
        ask(NONE, Calls.MAKE);
        ask(true, Calls.CUT, 0);
        ask(NONE, Calls.MAKE);
        ask(false, Calls.IS_DOWN);
        begin("4 make, power goes");
        ask(true, Calls.CUT, 0);
        ask(DOWN, Calls.MAKE);
        ask(true, Calls.START);
        ask(NO_SUCH, Calls.ABOUT, 0, 0);
        ask(0, Calls.MAKE);
    }

    private void commit() {
        beginWithDocument("5 commit");
        ask(1, Calls.MAKE);
        commitText(0, "first");
        ask(false, Calls.END, 1);
        fill("elsewhere");
        ask(0, Calls.COMMIT, 1, LOWEST);
        commitText(1, "second");
        ask(2, Calls.COMMIT, 0, HIGHEST);
        textIs(0, 0, "first");
        textIs(0, 1, "second");
        textIs(0, 2, "");
        textIs(1, 0, "elsewhere");
        ask(LOWEST, Calls.REVISION, 1, 0, 1);
        ask(HIGHEST, Calls.REVISION, 0, 2, 1);
        beginWithDocument("5 commit, 64 revisions");
        for (int r = 0; r < 64; r++) {
            ask(r, Calls.COMMIT, 0, r);
        }
        fill("more");
        ask(NONE, Calls.COMMIT, 0, 64);
        ask(true, Calls.TRIM, 0, 63);
        ask(NONE, Calls.COMMIT, 0, 64);
        ask(true, Calls.END, 4);
        ask(63, Calls.ABOUT, 0, 1);
    }

    private void commitRefused() {
        beginWithDocument("5 commit refused");
        commitText(0, "some text");
        fill("other text");
        for (int d : new int[] {-1, 1, 7, 8, LOWEST, HIGHEST}) {
            ask(NONE, Calls.COMMIT, d, 1);
        }
        ask(true, Calls.END, 10);
        ask(true, Calls.DAMAGE, 0, 0, 0, 2);
        ask(true, Calls.CUT, 0);
        ask(NONE, Calls.COMMIT, 0, 1);
        ask(false, Calls.IS_DOWN);
        ask(true, Calls.END, 10);
        ask(0, Calls.ABOUT, 0, 1);
        ask(511, Calls.FREE);
        ask(true, Calls.DAMAGE, 0, 0, 0, 2);
        ask(true, Calls.DAMAGE, 0, 0, 1, 's' ^ 'h');
        ask(true, Calls.CUT, 2);
        fill("home text");
        ask(1, Calls.COMMIT, 0, 1);
        // The base is what is made again now, not what was committed.
        nameIs("5 commit on a changed base");
        pieceIs(1, 2 * 9 + 1, 0);
        ask(0, Calls.VERIFY, 0);
    }

    private void pieces() {
        beginWithDocument("the piece: longest, lowest");
        commitText(0, "xabcdyabcdezabcde");
        pieceIs(0, 34, 'x', 'a', 'b', 'c', 'd', 'y', 'a', 'b', 'c', 'd', 'e', 'z', 'a', 'b', 'c', 'd', 'e');
        commitText(1, "abcdeabcd");
        pieceIs(1, 11, 6, 9, 1);
        commitText(2, "abceabcdQRabcyabcdRS");
        pieceIs(2, 8, 'a', 'b', 'c', 'e', 9, 1, 10, 'Q', 'R', 'a', 'b', 'c', 11, 5, 4, 'R', 'S');
        commitText(3, "");
        pieceIs(3);
        commitText(4, "xabcdyabcdezabcde");
        pieceIs(4, 35, 0);
        commitText(5, "cde");
        pieceIs(5, 6, 'c', 'd', 'e');
        commitText(6, "zabcd");
        pieceIs(6, 11, 11);
        commitText(7, "abcd");
        pieceIs(7, 9, 1);
        // The base of 8 is 0, though 7 is nearer.
        commitText(8, "dyab");
        pieceIs(8, 9, 4);
        // A run ends with the base, and with the text.
        commitText(9, "dyabdyab");
        pieceIs(9, 9, 0, 9, 0);
    }

    private void piecesWithLongNumbers() {
        beginWithDocument("the piece: numbers");
        commitText(0, run('a', 63));
        ask(64, Calls.REVISION, 0, 0, 0);
        ask(126, Calls.PIECE_BYTE, 0, 0, 0);
        commitText(1, run('a', 63) + "b");
        pieceIs(1, 127, 0, 2, 'b');
        commitText(2, run('c', 64));
        ask(66, Calls.REVISION, 0, 2, 0);
        ask(128, Calls.PIECE_BYTE, 0, 2, 0);
        ask(1, Calls.PIECE_BYTE, 0, 2, 1);
        ask((int) 'c', Calls.PIECE_BYTE, 0, 2, 2);
        commitText(3, run('c', 64));
        pieceIs(3, 129, 1, 0);
        commitText(4, rising(0, 200));
        commitText(5, rising(127, 4) + rising(128, 5));
        pieceIs(5, 9, 127, 11, 128, 1);
        commitText(6, rising(128, 63) + rising(196, 4));
        pieceIs(6, 127, 128, 1, 9, 196, 1);
        beginWithDocument("the piece: 256 bytes");
        commitText(0, rising(0, 256));
        ask(258, Calls.REVISION, 0, 0, 0);
        ask(128, Calls.PIECE_BYTE, 0, 0, 0);
        ask(4, Calls.PIECE_BYTE, 0, 0, 1);
        ask(255, Calls.PIECE_BYTE, 0, 0, 257);
        ask(512 - 9, Calls.FREE);
        commitText(1, rising(0, 256));
        pieceIs(1, 129, 4, 0);
        textIs(0, 1, rising(0, 256));
        commitText(2, rising(252, 4));
        pieceIs(2, 9, 252, 1);
        commitText(3, rising(253, 3) + rising(252, 4));
        pieceIs(3, 6, 253, 254, 255, 9, 0);
    }

    private void pieceOrWhole() {
        beginWithDocument("the piece or the whole");
        String base = rising(0, 200);
        commitText(0, base);
        // 66 + 3 + 66 bytes are one more than the whole's 134; with a place of one byte, as many.
        commitText(1, run(250, 64) + rising(150, 4) + run(251, 64));
        ask(134, Calls.REVISION, 0, 1, 0);
        ask(136, Calls.PIECE_BYTE, 0, 1, 0);
        ask(2, Calls.PIECE_BYTE, 0, 1, 1);
        commitText(2, base);
        commitText(3, run(250, 64) + rising(50, 4) + run(251, 64));
        ask(134, Calls.REVISION, 0, 3, 0);
        ask(128, Calls.PIECE_BYTE, 0, 3, 0);
        ask(1, Calls.PIECE_BYTE, 0, 3, 1);
        ask(9, Calls.PIECE_BYTE, 0, 3, 66);
        ask(50, Calls.PIECE_BYTE, 0, 3, 67);
        commitText(4, "@" + rising(150, 4) + "@");
        pieceIs(4, 2, '@', 9, 150, 1, 2, '@');
    }

    private void fetch() {
        beginWithDocument("6 fetch");
        ask(NONE, Calls.FETCH, 0, 0);
        commitText(0, "nought");
        commitText(1, "nought and one");
        commitText(2, "two");
        for (int r : new int[] {-1, 3, 64, LOWEST, HIGHEST}) {
            ask(NONE, Calls.FETCH, 0, r);
        }
        for (int d : new int[] {-1, 1, 8, LOWEST, HIGHEST}) {
            ask(NONE, Calls.FETCH, d, 0);
        }
        textIs(0, 1, "nought and one");
        textIs(0, 0, "nought");
        ask(true, Calls.DAMAGE, 0, 2, 0, 1);
        ask(14, Calls.FETCH, 0, 1);
        ask(BAD, Calls.FETCH, 0, 2);
        ask((int) 'e', Calls.OUT, 13);
        ask(1, Calls.STEPS);
        ask(true, Calls.TRIM, 0, 1);
        ask(NONE, Calls.FETCH, 0, 0);
        ask((int) 'e', Calls.OUT, 13);
        ask(1, Calls.STEPS);
        ask(14, Calls.FETCH, 0, 1);
    }

    private void madeAgainOrNot() {
        beginWithDocument("made again: numbers");
        commitText(0, "abc");
        setPiece(0, 0x82, 0x80, 0x00, 'x');
        textIs(0, 0, "x");
        setPiece(0, 2, 'a', 0x80, 0x80);
        ask(BAD, Calls.FETCH, 0, 0);
        setPiece(0, 0x80, 0x80, 0x80, 0x00);
        ask(BAD, Calls.FETCH, 0, 0);
        setPiece(0, 0x82, 0x80, 0x80, 0x00);
        ask(BAD, Calls.FETCH, 0, 0);
        setPiece(0, 8, 'a', 'b', 'c');
        ask(BAD, Calls.FETCH, 0, 0);
        setPiece(0, 4, 'a', 'b', 2);
        ask(BAD, Calls.FETCH, 0, 0);
        setPiece(0, 2, 'a', 2, 'b');
        textIs(0, 0, "ab");
        setPiece(0, 2, 'a', 0, 0);
        ask(BAD, Calls.FETCH, 0, 0);
        setPiece(0, 2, 'a', 1, 0);
        ask(BAD, Calls.FETCH, 0, 0);
        setPiece(0, 2, 'a', 3, 0);
        ask(BAD, Calls.FETCH, 0, 0);
        setPiece(0, 4, 'a', 'b', 3);
        ask(BAD, Calls.FETCH, 0, 0);
        setPiece(0, 0xfe, 0xff, 0x7f, 0);
        ask(BAD, Calls.FETCH, 0, 0);

        beginWithDocument("made again: numbers of four bytes");
        commitText(0, "abcd");
        setPiece(0, 0x82, 0x80, 0x00, 2, 'x');
        ask(BAD, Calls.FETCH, 0, 0);
        setPiece(0, 0x82, 0x80, 0x80, 0x00, 'x');
        ask(BAD, Calls.FETCH, 0, 0);
        setPiece(0, 0x82, 0x80, 0x82, 0x02, 'x');
        ask(BAD, Calls.FETCH, 0, 0);
        setPiece(0, 0x84, 0x80, 0x00, 'x', 'y');
        textIs(0, 0, "xy");

        beginWithDocument("made again: the base");
        commitText(0, "abcdef");
        commitText(1, "cdef");
        pieceIs(1, 9, 2);
        setPiece(1, 9, 1);
        textIs(0, 1, "bcde");
        setPiece(1, 9, 3);
        ask(BAD, Calls.FETCH, 0, 1);
        setPiece(1, 3, 5);
        textIs(0, 1, "f");
        setPiece(1, 3, 6);
        ask(BAD, Calls.FETCH, 0, 1);
        setPiece(1, 3, 127);
        ask(BAD, Calls.FETCH, 0, 1);
        setPiece(1, 3, 128);
        ask(BAD, Calls.FETCH, 0, 1);
        setPiece(1, 9, 2);
        setPiece(0, 8);
        ask(BAD, Calls.FETCH, 0, 0);
        ask(BAD, Calls.FETCH, 0, 1);
        setPiece(0, 12, 'A', 'B', 'C', 'D', 'E', 'F');
        textIs(0, 1, "CDEF");
    }

    private void atMost256Bytes() {
        beginWithDocument("made again: 256 bytes");
        commitText(0, rising(0, 200));
        commitText(1, rising(0, 200) + rising(0, 4));
        pieceIs(1, 0x91, 3, 0, 9, 0);
        setPiece(1, 0x91, 3, 0, 2 * 56 + 1, 0);
        textIs(0, 1, rising(0, 200) + rising(0, 56));
        setPiece(1, 0x91, 3, 0, 2 * 57 + 1, 0);
        ask(BAD, Calls.FETCH, 0, 1);
        beginWithDocument("made again: 256 bytes, the last by INSERT");
        commitText(0, rising(0, 200));
        ask(1, Calls.COMMIT, 0, 1);
        commitText(2, rising(1, 199) + run(201, 57));
        pieceIs(2, pieceOfCopyAndInsert());
        setPiece(2, 0x91, 3, 0);
        ask(BAD, Calls.FETCH, 0, 2);
        setPiece(2, 0x8f, 3, 0);
        textIs(0, 2, rising(0, 199) + run(201, 57));
    }

    private static int[] pieceOfCopyAndInsert() {
        int[] piece = new int[3 + 1 + 57];
        piece[0] = 0x8f;
        piece[1] = 3;
        piece[2] = 1;
        piece[3] = 114;
        for (int i = 4; i < piece.length; i++) {
            piece[i] = 201;
        }
        return piece;
    }

    private void outAndSteps() {
        beginWithDocument("7 out, 8 steps");
        for (int r = 0; r < 64; r++) {
            ask(true, Calls.FEED, 0x61626364 + r, 0, 0, 0, 0);
            ask(true, Calls.END, r == 63 ? 0 : 4);
            ask(r, Calls.COMMIT, 0, r);
        }
        ask(NONE, Calls.STEPS);
        ask(NONE, Calls.OUT, 0);
        int[] revisions = {0, 1, 2, 3, 7, 8, 31, 32, 33, 62};
        int[] steps = {0, 1, 1, 2, 3, 1, 5, 1, 2, 5};
        for (int k = 0; k < revisions.length; k++) {
            ask(4, Calls.FETCH, 0, revisions[k]);
            ask(steps[k], Calls.STEPS);
            ask(0x64 + revisions[k], Calls.OUT, 3);
            for (int i : new int[] {-1, 4, 255, 256, LOWEST, HIGHEST}) {
                ask(NONE, Calls.OUT, i);
            }
        }
        ask(0, Calls.FETCH, 0, 63);
        ask(6, Calls.STEPS);
        ask(NONE, Calls.OUT, 0);
        ask(4, Calls.FETCH, 0, 6);
        // What was fetched stays, whatever becomes of the document.
        ask(true, Calls.DAMAGE, 0, 6, 1, 255);
        ask(true, Calls.TRIM, 0, 62);
        ask(true, Calls.DROP, 0);
        ask(true, Calls.CUT, 0);
        ask(DOWN, Calls.MAKE);
        ask(true, Calls.START);
        ask(0x61, Calls.OUT, 0);
        ask(2, Calls.STEPS);
    }

    private void trim() {
        beginWithDocument("9 trim");
        ask(false, Calls.TRIM, 0, 0);
        for (int r = 0; r < 8; r++) {
            commitText(r, run('a' + r, 4));
        }
        ask(false, Calls.TRIM, 1, 0);
        ask(false, Calls.TRIM, -1, 0);
        ask(false, Calls.TRIM, 0, 8);
        ask(false, Calls.TRIM, 0, -1);
        ask(false, Calls.TRIM, 0, HIGHEST);
        ask(false, Calls.TRIM, 0, LOWEST);
        ask(true, Calls.TRIM, 0, 0);
        ask(0, Calls.ABOUT, 0, 0);
        ask(504, Calls.FREE);
        ask(true, Calls.TRIM, 0, 3);
        ask(3, Calls.ABOUT, 0, 0);
        ask(7, Calls.ABOUT, 0, 1);
        // 3 is made from 2 and 0; nothing is made from 1.
        ask(505, Calls.FREE);
        ask(NONE, Calls.PIECE_BYTE, 0, 1, 0);
        ask(8, Calls.PIECE_BYTE, 0, 2, 0);
        ask(NONE, Calls.FETCH, 0, 2);
        textIs(0, 3, "dddd");
        ask(false, Calls.TRIM, 0, 2);
        ask(true, Calls.TRIM, 0, 3);
        ask(true, Calls.TRIM, 0, 7);
        ask(508, Calls.FREE);
        textIs(0, 7, "hhhh");
        commitText(8, "iiii");
        ask(true, Calls.TRIM, 0, 8);
        ask(510, Calls.FREE);
        commitText(9, "jjjj");
        textIs(0, 8, "iiii");
        textIs(0, 9, "jjjj");
    }

    private void dropDocument() {
        beginWithDocument("10 dropDocument");
        ask(1, Calls.MAKE);
        commitText(0, "kept no more");
        fill("kept");
        ask(0, Calls.COMMIT, 1, 3);
        for (int d : new int[] {-1, 2, 7, 8, LOWEST, HIGHEST}) {
            ask(false, Calls.DROP, d);
        }
        ask(510, Calls.FREE);
        ask(true, Calls.DROP, 0);
        ask(511, Calls.FREE);
        ask(false, Calls.DROP, 0);
        ask(NO_SUCH, Calls.ABOUT, 0, 0);
        ask(NO_SUCH, Calls.REVISION, 0, 0, 0);
        ask(NONE, Calls.FETCH, 0, 0);
        ask(NONE, Calls.COMMIT, 0, 0);
        ask(NONE, Calls.VERIFY, 0);
        ask(NONE, Calls.PIECE_BYTE, 0, 0, 0);
        ask(NONE, Calls.COMMON, 0, 0, 0, 0);
        ask(false, Calls.TRIM, 0, 0);
        ask(false, Calls.DAMAGE, 0, 0, 0, 1);
        textIs(1, 0, "kept");
    }

    private void about() {
        beginWithDocument("11 about");
        ask(0, Calls.ABOUT, 0, 0);
        ask(NONE, Calls.ABOUT, 0, 1);
        commitText(0, "a");
        commitText(1, "b");
        commitText(2, "c");
        ask(0, Calls.ABOUT, 0, 0);
        ask(2, Calls.ABOUT, 0, 1);
        ask(true, Calls.TRIM, 0, 2);
        ask(2, Calls.ABOUT, 0, 0);
        ask(2, Calls.ABOUT, 0, 1);
        for (int what : new int[] {-1, 2, LOWEST, HIGHEST}) {
            ask(ARGUMENT, Calls.ABOUT, 0, what);
            ask(NO_SUCH, Calls.ABOUT, 1, what);
        }
        for (int d : new int[] {-1, 1, 8, LOWEST, HIGHEST}) {
            ask(NO_SUCH, Calls.ABOUT, d, 0);
            ask(NO_SUCH, Calls.ABOUT, d, 1);
        }
    }

    private void revision() {
        beginWithDocument("12 revision");
        ask(NO_SUCH, Calls.REVISION, 0, 0, 0);
        commitText(0, "ab");
        ask(3, Calls.REVISION, 0, 0, 0);
        ask(100, Calls.REVISION, 0, 0, 1);
        ask(98 * 31 + 99, Calls.REVISION, 0, 0, 2);
        commitText(1, "\u00ff\0");
        ask(256 * 31 + 1, Calls.REVISION, 0, 1, 2);
        commitText(2, "");
        ask(0, Calls.REVISION, 0, 2, 0);
        ask(0, Calls.REVISION, 0, 2, 2);
        commitText(3, run(255, 100));
        ask(Model.sumOf(run(255, 100)), Calls.REVISION, 0, 3, 2);
        ask(true, Calls.DAMAGE, 0, 0, 1, 1);
        ask(98 * 31 + 99, Calls.REVISION, 0, 0, 2);
        for (int what : new int[] {-1, 3, LOWEST, HIGHEST}) {
            ask(ARGUMENT, Calls.REVISION, 0, 0, what);
            ask(NO_SUCH, Calls.REVISION, 0, 4, what);
            ask(NO_SUCH, Calls.REVISION, 1, 0, what);
        }
        for (int r : new int[] {-1, 4, 64, LOWEST, HIGHEST}) {
            ask(NO_SUCH, Calls.REVISION, 0, r, 0);
        }
        ask(NO_SUCH, Calls.REVISION, -1, 0, 0);
        ask(NO_SUCH, Calls.REVISION, 8, 0, 0);
        ask(true, Calls.TRIM, 0, 2);
        ask(3, Calls.REVISION, 0, 0, 0);
        ask(NO_SUCH, Calls.REVISION, 0, 0, 1);
        ask(98 * 31 + 99, Calls.REVISION, 0, 0, 2);
        ask(NO_SUCH, Calls.REVISION, 0, 0, 3);
        for (int what = 0; what < 4; what++) {
            ask(NO_SUCH, Calls.REVISION, 0, 1, what);
        }
        ask(102, Calls.REVISION, 0, 2, 1);
    }

    private void pieceByteAndDamage() {
        beginWithDocument("13 pieceByte, 14 damage");
        ask(NONE, Calls.PIECE_BYTE, 0, 0, 0);
        ask(false, Calls.DAMAGE, 0, 0, 0, 1);
        commitText(0, "a\u00fe");
        commitText(1, "");
        pieceIs(0, 4, 'a', 0xfe);
        pieceIs(1);
        for (int i : new int[] {-1, 3, LOWEST, HIGHEST}) {
            ask(NONE, Calls.PIECE_BYTE, 0, 0, i);
            ask(false, Calls.DAMAGE, 0, 0, i, 1);
        }
        ask(false, Calls.DAMAGE, 0, 1, 0, 1);
        for (int wrong : new int[] {-1, 2, 64, LOWEST, HIGHEST}) {
            ask(NONE, Calls.PIECE_BYTE, wrong, 0, 0);
            ask(NONE, Calls.PIECE_BYTE, 0, wrong, 0);
            ask(false, Calls.DAMAGE, wrong, 0, 0, 1);
            ask(false, Calls.DAMAGE, 0, wrong, 0, 1);
        }
        ask(true, Calls.DAMAGE, 0, 0, 2, 0x7fffff00);
        pieceIs(0, 4, 'a', 0xfe);
        ask(true, Calls.DAMAGE, 0, 0, 2, 0xffffff81);
        pieceIs(0, 4, 'a', 0x7f);
        textIs(0, 0, "a\u007f");
        ask(true, Calls.DAMAGE, 0, 0, 2, 0x81);
        textIs(0, 0, "a\u00fe");
        ask(true, Calls.TRIM, 0, 1);
        ask(4, Calls.PIECE_BYTE, 0, 0, 0);
        ask(true, Calls.DAMAGE, 0, 0, 0, 3);
        ask(7, Calls.PIECE_BYTE, 0, 0, 0);
        ask(BAD, Calls.FETCH, 0, 1);
    }

    private void verify() {
        beginWithDocument("15 verify");
        ask(NONE, Calls.VERIFY, 0);
        for (int d : new int[] {-1, 1, 8, LOWEST, HIGHEST}) {
            ask(NONE, Calls.VERIFY, d);
        }
        commitText(0, "abcdefgh");
        commitText(1, "abcd");
        commitText(2, "xyz");
        commitText(3, "efgh");
        ask(NONE, Calls.VERIFY, 0);
        ask(true, Calls.DAMAGE, 0, 2, 1, 1);
        ask(2, Calls.VERIFY, 0);
        // 3 has nothing of 2, so it is sound once 2 can't be asked for.
        ask(true, Calls.DAMAGE, 0, 0, 1, 1);
        ask(0, Calls.VERIFY, 0);
        ask(true, Calls.TRIM, 0, 1);
        ask(1, Calls.VERIFY, 0);
        ask(true, Calls.TRIM, 0, 3);
        ask(NONE, Calls.VERIFY, 0);
        ask(true, Calls.DAMAGE, 0, 2, 0, 1);
        ask(3, Calls.VERIFY, 0);
        ask(true, Calls.DAMAGE, 0, 2, 0, 1);
        ask(NONE, Calls.VERIFY, 0);
        ask(4, Calls.FETCH, 0, 3);
        ask(true, Calls.DAMAGE, 0, 3, 4, 128);
        ask(3, Calls.VERIFY, 0);
        ask((int) 'h', Calls.OUT, 3);
    }

    private void common() {
        beginWithDocument("16 common");
        ask(NONE, Calls.COMMON, 0, 0, 0, 0);
        String[] texts = {"aaaa", "aaaaa", "abXcd", "abYYcd", "aba", "abba", "", "cd"};
        for (int r = 0; r < texts.length; r++) {
            commitText(r, texts[r]);
        }
        ask(5, Calls.FETCH, 0, 2);
        int[][] due = {{0, 1, 4, 0}, {0, 0, 4, 0}, {2, 3, 2, 2}, {4, 5, 2, 1}, {6, 0, 0, 0},
            {6, 6, 0, 0}, {7, 3, 0, 2}, {0, 4, 1, 1}, {1, 2, 1, 0}};
        for (int[] row : due) {
            ask(row[2], Calls.COMMON, 0, row[0], row[1], 0);
            ask(row[2], Calls.COMMON, 0, row[1], row[0], 0);
            ask(row[3], Calls.COMMON, 0, row[0], row[1], 1);
            ask(row[3], Calls.COMMON, 0, row[1], row[0], 1);
        }
        ask((int) 'X', Calls.OUT, 2);
        ask(1, Calls.STEPS);
        for (int wrong : new int[] {-1, 8, LOWEST, HIGHEST}) {
            ask(NONE, Calls.COMMON, wrong, 0, 0, 0);
            ask(NONE, Calls.COMMON, 0, wrong, 0, 0);
            ask(NONE, Calls.COMMON, 0, 0, wrong, 0);
            ask(NONE, Calls.COMMON, 0, 0, 0, wrong);
        }
        ask(NONE, Calls.COMMON, 0, 0, 0, 2);
        ask(true, Calls.DAMAGE, 0, 2, 0, 1);
        ask(BAD, Calls.COMMON, 0, 2, 0, 0);
        ask(BAD, Calls.COMMON, 0, 0, 2, 1);
        ask(BAD, Calls.COMMON, 0, 3, 3, 0);
        ask(NONE, Calls.COMMON, 0, 2, 0, 2);
        ask(NONE, Calls.COMMON, 0, 2, 8, 0);
        ask(4, Calls.COMMON, 0, 0, 1, 0);
        ask(true, Calls.TRIM, 0, 3);
        ask(NONE, Calls.COMMON, 0, 0, 4, 0);
        ask(NONE, Calls.COMMON, 0, 3, 2, 0);
        ask((int) 'X', Calls.OUT, 2);
    }

    private void freeBlocks() {
        begin("17 freeBlocks");
        int[] bytes = {0, 1, 31, 32, 62, 63, 64, 94, 95, 240, 254, 255, 256};
        int[] blocks = {0, 1, 1, 2, 2, 2, 3, 3, 4, 8, 8, 9, 9};
        for (int k = 0; k < bytes.length; k++) {
            beginWithDocument("17 freeBlocks of " + bytes[k] + " bytes");
            ask(512, Calls.FREE);
            commitText(0, run('a', bytes[k]));
            ask(512 - blocks[k], Calls.FREE);
            ask(true, Calls.DROP, 0);
            ask(512, Calls.FREE);
        }
    }

    private void cutAfter() {
        beginWithDocument("18 cutAfter");
        ask(true, Calls.CUT, 3);
        ask(false, Calls.CUT, -1);
        ask(false, Calls.CUT, LOWEST);
        ask(1, Calls.MAKE);
        ask(2, Calls.MAKE);
        ask(3, Calls.MAKE);
        ask(NONE, Calls.FETCH, 0, 0);
        ask(false, Calls.TRIM, 0, 0);
        ask(false, Calls.DROP, 4);
        ask(false, Calls.IS_DOWN);
        ask(DOWN, Calls.MAKE);
        ask(true, Calls.IS_DOWN);
        ask(true, Calls.START);
        ask(true, Calls.CUT, 0);
        ask(true, Calls.CUT, HIGHEST);
        ask(4, Calls.MAKE);
        ask(true, Calls.CUT, 1);
        ask(true, Calls.DROP, 4);
        ask(DOWN, Calls.DROP, 3);
        ask(true, Calls.START);
        ask(0, Calls.ABOUT, 3, 0);
        ask(true, Calls.CUT, 4);
        ask(0, Calls.COMMIT, 3, 1);
        ask(1, Calls.COMMIT, 3, 1);
        ask(true, Calls.TRIM, 3, 1);
        ask(true, Calls.TRIM, 3, 1);
        ask(false, Calls.TRIM, 3, 0);
        ask(DOWN, Calls.TRIM, 3, 1);
        for (int writes = 0; writes < 10; writes++) {
            beginWithDocument("18 cutAfter(" + writes + ") in a commit of ten writes");
            fill(rising(0, 256));
            ask(true, Calls.CUT, writes);
            ask(DOWN, Calls.COMMIT, 0, 1);
            ask(true, Calls.START);
            ask(512, Calls.FREE);
            ask(NONE, Calls.ABOUT, 0, 1);
        }
        beginWithDocument("18 cutAfter(10) in a commit of ten writes");
        fill(rising(0, 256));
        ask(true, Calls.CUT, 10);
        ask(0, Calls.COMMIT, 0, 1);
        ask(DOWN, Calls.COMMIT, 0, 2);
        ask(true, Calls.START);
        ask(0, Calls.ABOUT, 0, 1);
    }

    private void powerGoesInEachWritingCall() {
        beginWithDocument("power goes");
        commitText(0, "abcd");
        commitText(1, "efgh");
        int[][] calls = {{Calls.MAKE}, {Calls.COMMIT, 0, 9}, {Calls.TRIM, 0, 1}, {Calls.TRIM, 0, 0}, {Calls.DROP, 0}};
        for (int[] call : calls) {
            fill("buffer");
            ask(true, Calls.CUT, 0);
            ask(DOWN, call[0], java.util.Arrays.copyOfRange(call, 1, 5));
            ask(true, Calls.IS_DOWN);
            ask(true, Calls.START);
            ask(false, Calls.END, 1);
            ask(true, Calls.END, 0);
            ask(0, Calls.ABOUT, 0, 0);
            ask(1, Calls.ABOUT, 0, 1);
            ask(510, Calls.FREE);
            textIs(0, 0, "abcd");
            textIs(0, 1, "efgh");
        }
        ask(1, Calls.MAKE);
        ask(2, Calls.COMMIT, 0, 9);
    }

    private void downRefusesAll() {
        beginWithDocument("down");
        commitText(0, "abcd");
        ask(true, Calls.CUT, 0);
        ask(DOWN, Calls.MAKE);
        for (int call = 0; call < Calls.NAMES.length; call++) {
            if (call != Calls.START && call != Calls.IS_DOWN) {
                ask(DOWN, call, 0, 0, 0, 0, 0);
                ask(DOWN, call, -1, -1, -1, -1, -1);
                ask(DOWN, call, 9, 9, 9, 9, 9);
            }
        }
        ask(true, Calls.IS_DOWN);
        ask(true, Calls.START);
        textIs(0, 0, "abcd");
        ask(NONE, Calls.VERIFY, 0);
        ask(false, Calls.END, 1);
    }

    private void startAndIsDown() {
        beginWithDocument("19 start, 20 isDown");
        ask(false, Calls.START);
        ask(false, Calls.IS_DOWN);
        ask(true, Calls.CUT, 0);
        // It is not down yet, so start changes nothing: power goes all the same.
        ask(false, Calls.START);
        ask(false, Calls.IS_DOWN);
        ask(DOWN, Calls.MAKE);
        ask(true, Calls.IS_DOWN);
        ask(DOWN, Calls.CUT, 0);
        ask(true, Calls.START);
        ask(false, Calls.IS_DOWN);
        ask(false, Calls.START);
        for (int d = 1; d < 8; d++) {
            ask(d, Calls.MAKE);
        }
        ask(0, Calls.COMMIT, 7, 1);
        ask(NONE, Calls.MAKE);
        ask(true, Calls.CUT, 0);
        ask(DOWN, Calls.DROP, 7);
        ask(DOWN, Calls.MAKE);
    }
}
