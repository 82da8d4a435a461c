/** The sentences of the promises 1 to 3: a new object, feed, end. */
final class BufferSentences extends Asking {
    private static final String TWENTY = "ABCDEFGHIJKLMNOPQRST";

    BufferSentences(Checks checks) {
        super(checks);
    }

    private void feedTwenty(Object want) {
        ask(want, Calls.FEED, 0x41424344, 0x45464748, 0x494a4b4c, 0x4d4e4f50, 0x51525354);
    }

    @Sentence("No documents")
    void promise01_noDocuments() {
        for (int d = -1; d <= 8; d++) {
            ask(NO_SUCH, Calls.ABOUT, d, 0);
            ask(NO_SUCH, Calls.REVISION, d, 0, 0);
            ask(NONE, Calls.FETCH, d, 0);
            ask(NONE, Calls.COMMIT, d, 1);
            ask(false, Calls.TRIM, d, 0);
            ask(false, Calls.DROP, d);
            ask(NONE, Calls.PIECE_BYTE, d, 0, 0);
            ask(false, Calls.DAMAGE, d, 0, 0, 1);
            ask(NONE, Calls.VERIFY, d);
            ask(NONE, Calls.COMMON, d, 0, 0, 0);
        }
        ask(512, Calls.FREE);
        ask(0, Calls.MAKE);
    }

    @Sentence("power is on.")
    void promise01_powerIsOnAndDoesNotGo() {
        ask(false, Calls.IS_DOWN);
        ask(false, Calls.START);
        for (int d = 0; d < 8; d++) {
            ask(d, Calls.MAKE);
        }
        for (int r = 0; r < 64; r++) {
            ask(true, Calls.FEED, r, r, r, r, r);
            ask(r, Calls.COMMIT, 7, r);
        }
        ask(false, Calls.IS_DOWN);
    }

    @Sentence("Twenty bytes come behind those in the buffer")
    void promise02_twentyBytesComeBehind() {
        ask(0, Calls.MAKE);
        feedTwenty(true);
        bufferHas(20);
        ask(true, Calls.END, 3);
        feedTwenty(true);
        bufferHas(23);
        feedTwenty(true);
        bufferIs("ABC" + TWENTY + TWENTY, 0, 0);
    }

    @Sentence("the highest of each int first: true")
    void promise02_highestByteOfEachIntFirst() {
        ask(0, Calls.MAKE);
        ask(true, Calls.FEED, 0x01020304, 0xfffefdfc, 0x80000000, HIGHEST, -1);
        bufferIs("\1\2\3\4\u00ff\u00fe\u00fd\u00fc\u0080\0\0\0\u007f\u00ff\u00ff\u00ff\u00ff\u00ff\u00ff\u00ff", 0, 0);
        ask(true, Calls.FEED, 0, 1, 0x100, 0x10000, 0x1000000);
        bufferIs("\0\0\0\0\0\0\0\1\0\0\1\0\0\1\0\0\1\0\0\0", 0, 1);
    }

    @Sentence("false, and none comes, if there is no room.")
    void promise02_roomFor20At235And236ButNotAt237() {
        for (int n : new int[] {235, 236}) {
            begin();
            fill(run('a', n));
            feedTwenty(true);
            bufferHas(n + 20);
        }
        for (int n : new int[] {237, 240, 255, 256}) {
            begin();
            fill(run('a', n));
            feedTwenty(false);
            bufferHas(n);
        }
    }

    @Sentence("false, and none comes, if there is no room.")
    void promise02_theBytesInTheBufferStayWithoutRoom() {
        ask(0, Calls.MAKE);
        fill(rising(0, 237));
        feedTwenty(false);
        bufferIs(rising(0, 237), 0, 0);
    }

    @Sentence("IllegalStateException if it is down.")
    void promise02_throwsIfDown() {
        ask(0, Calls.MAKE);
        goDown();
        feedTwenty(DOWN);
        ask(true, Calls.START);
        bufferHas(0);
        feedTwenty(true);
        bufferIs(TWENTY, 0, 0);
    }

    @Sentence("The buffer has its first n bytes alone: true")
    void promise03_firstNBytesFor0And1And19And20() {
        for (int n : new int[] {0, 1, 19, 20}) {
            beginWithDocument();
            feedTwenty(true);
            ask(true, Calls.END, n);
            bufferIs(TWENTY.substring(0, n), 0, 0);
        }
    }

    @Sentence("The buffer has its first n bytes alone: true")
    void promise03_whatWasCutOffDoesNotComeBack() {
        ask(0, Calls.MAKE);
        feedTwenty(true);
        ask(true, Calls.END, 5);
        ask(false, Calls.END, 20);
        ask(false, Calls.END, 6);
        bufferIs("ABCDE", 0, 0);
    }

    @Sentence("The buffer has its first n bytes alone: true")
    void promise03_all256And0OfNone() {
        ask(true, Calls.END, 0);
        fill(run('a', 256));
        ask(true, Calls.END, 256);
        ask(true, Calls.END, 255);
        ask(false, Calls.END, 256);
    }

    @Sentence("false if it has less")
    void promise03_falseIfItHasLess() {
        ask(false, Calls.END, 1);
        ask(0, Calls.MAKE);
        feedTwenty(true);
        for (int n : new int[] {21, 256, 257, HIGHEST}) {
            ask(false, Calls.END, n);
        }
        bufferIs(TWENTY, 0, 0);
        fill(run('a', 256));
        ask(false, Calls.END, 257);
        bufferHas(256);
    }

    @Sentence("or n is below 0.")
    void promise03_falseIfNIsBelow0() {
        ask(false, Calls.END, -1);
        ask(0, Calls.MAKE);
        feedTwenty(true);
        for (int n : new int[] {-1, -20, -256, LOWEST}) {
            ask(false, Calls.END, n);
        }
        bufferIs(TWENTY, 0, 0);
    }

    @Sentence("IllegalStateException if it is down.")
    void promise03_throwsIfDown() {
        goDown();
        for (int n : new int[] {-1, 0, 1}) {
            ask(DOWN, Calls.END, n);
        }
        ask(true, Calls.START);
        ask(true, Calls.END, 0);
    }
}
