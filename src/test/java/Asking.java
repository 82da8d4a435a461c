/** What the tests have in common: a keeper, the calls told to it, and the answers that are due. */
class Asking {
    static final String DOWN = "throws.IllegalStateException";
    static final String NO_SUCH = "throws.NoSuchElementException";
    static final String ARGUMENT = "throws.IllegalArgumentException";
    static final int NONE = -1;
    static final int BAD = -2;
    static final int LOWEST = Integer.MIN_VALUE;
    static final int HIGHEST = Integer.MAX_VALUE;
    /** The document promises nothing of an object after so many calls. */
    static final int MOST_CALLS = 512;

    final Checks checks;
    private String name = "";
    private TextKeeper keeper;
    private Model model;
    private int calls;
    private boolean mayGoOn;

    Asking(Checks checks) {
        this.checks = checks;
    }

    void begin(String newName) {
        name = newName;
        begin();
    }

    /** A new object, in the test that has begun. */
    void begin() {
        keeper = new TextKeeper();
        model = new Model();
        calls = 0;
        mayGoOn = false;
    }

    void beginWithDocument(String newName) {
        begin(newName);
        ask(0, Calls.MAKE);
    }

    void beginWithDocument() {
        begin();
        ask(0, Calls.MAKE);
    }

    void nameIs(String newName) {
        name = newName;
    }

    /** For what the 512 calls of an object can't reach. */
    void goBeyondTheCalls() {
        mayGoOn = true;
    }

    int callsMade() {
        return calls;
    }

    void due(String what, Object got, Object want) {
        checks.due(name + ": " + what, got, want);
    }

    /** The model is asked too, so that what is due here is held against it as well. */
    void ask(Object want, int call, int... a) {
        String told = Calls.told(call, a);
        due(told, answer(call, a), want);
        due(told + " of the model", model.answer(call, a), want);
    }

    private String answer(int call, int... a) {
        calls++;
        if (calls == MOST_CALLS + 1 && !mayGoOn) {
            due("calls of one object", "more than " + MOST_CALLS, "at most " + MOST_CALLS);
        }
        return Calls.answer(keeper, call, a);
    }

    private int number(int call, int... a) {
        return Integer.parseInt(answer(call, a));
    }

    /** Fills the buffer with a text; where twenty bytes have no room, they come from further ahead. */
    void fill(String text) {
        ask(true, Calls.END, 0);
        for (int from = 0; from < text.length(); from += 20) {
            if (from + 20 > 256) {
                from = 236;
                ask(true, Calls.END, from);
            }
            int[] words = new int[5];
            for (int i = 0; i < 20; i++) {
                int value = from + i < text.length() ? text.charAt(from + i) : 0;
                words[i / 4] = words[i / 4] << 8 | value;
            }
            ask(true, Calls.FEED, words);
        }
        ask(true, Calls.END, text.length());
    }

    /** The next revision of document 0, by an author of its own. */
    void commitText(int number, String text) {
        commitText(0, number, text);
    }

    void commitText(int document, int number, String text) {
        fill(text);
        ask(number, Calls.COMMIT, document, 100 + number);
    }

    /** A new object whose document 0 has these texts. */
    void beginWithTexts(String... texts) {
        beginWithDocument();
        for (int r = 0; r < texts.length; r++) {
            commitText(r, texts[r]);
        }
    }

    /** A new object whose document 0 has so many revisions, each of its number five times. */
    void beginWithRevisionsOf20Bytes(int n) {
        beginWithDocument();
        for (int r = 0; r < n; r++) {
            ask(true, Calls.FEED, r, r, r, r, r);
            ask(r, Calls.COMMIT, 0, r);
        }
    }

    void textIs(int document, int revision, String text) {
        ask(text.length(), Calls.FETCH, document, revision);
        fetchedIs(text);
    }

    void fetchedIs(String text) {
        for (int i = 0; i < text.length(); i++) {
            ask((int) text.charAt(i), Calls.OUT, i);
        }
        ask(NONE, Calls.OUT, text.length());
    }

    void bufferHas(int n) {
        ask(false, Calls.END, n + 1);
        ask(true, Calls.END, n);
    }

    /** The buffer can be seen only by a commit: as a document's next revision. */
    void bufferIs(String text, int document, int number) {
        bufferHas(text.length());
        ask(number, Calls.COMMIT, document, 0);
        textIs(document, number, text);
    }

    void pieceIs(int revision, int... bytes) {
        ask(bytes.length, Calls.REVISION, 0, revision, 0);
        for (int i = 0; i < bytes.length; i++) {
            ask(bytes[i], Calls.PIECE_BYTE, 0, revision, i);
        }
        ask(NONE, Calls.PIECE_BYTE, 0, revision, bytes.length);
    }

    void setPiece(int revision, int... bytes) {
        for (int i = 0; i < bytes.length; i++) {
            int mask = number(Calls.PIECE_BYTE, 0, revision, i) ^ bytes[i];
            ask(true, Calls.DAMAGE, 0, revision, i, mask);
        }
    }

    /** Power goes in a call that would make one more document. */
    void goDown() {
        ask(true, Calls.CUT, 0);
        ask(DOWN, Calls.MAKE);
    }

    /** All that can be seen of the keeper, but for the buffer, by calls that change nothing. */
    String seen() {
        StringBuilder all = new StringBuilder();
        all.append(answer(Calls.IS_DOWN)).append(' ').append(answer(Calls.FREE));
        for (int d = 0; d < 8; d++) {
            String newest = answer(Calls.ABOUT, d, 1);
            all.append(" / ").append(newest);
            if (!newest.equals(NO_SUCH)) {
                all.append(' ').append(answer(Calls.ABOUT, d, 0)).append(' ').append(answer(Calls.VERIFY, d));
                seeRevisions(all, d, Integer.parseInt(newest));
            }
        }
        all.append(" / ").append(answer(Calls.STEPS));
        String out = "";
        for (int i = 0; i <= 256 && !out.equals("-1"); i++) {
            out = answer(Calls.OUT, i);
            all.append(' ').append(out);
        }
        return all.toString();
    }

    private void seeRevisions(StringBuilder all, int d, int newest) {
        for (int r = 0; r <= newest; r++) {
            String length = answer(Calls.REVISION, d, r, 0);
            all.append(", ").append(length);
            if (!length.equals(NO_SUCH)) {
                all.append(' ').append(answer(Calls.REVISION, d, r, 1));
                all.append(' ').append(answer(Calls.REVISION, d, r, 2));
                for (int i = 0; i < Math.min(258, Integer.parseInt(length)); i++) {
                    all.append(' ').append(answer(Calls.PIECE_BYTE, d, r, i));
                }
            }
        }
    }

    void isAsBefore(String before) {
        due("all that can be seen", seen(), before);
    }

    /** So many writes, from a revision on: a commit of the empty text is one. */
    void write(int writes, int document, int revision) {
        ask(true, Calls.END, 0);
        for (int k = 0; k < writes; k++) {
            ask(revision + k, Calls.COMMIT, document, 0);
        }
    }

    /** Power lasts for so many writes and goes in the next one. */
    void writesLeftAre(int writes, int document, int revision) {
        write(writes, document, revision);
        ask(DOWN, Calls.COMMIT, document, 0);
    }

    static String run(int value, int n) {
        return String.valueOf((char) value).repeat(n);
    }

    static String rising(int from, int n) {
        StringBuilder text = new StringBuilder();
        for (int i = 0; i < n; i++) {
            text.append((char) (from + i));
        }
        return text.toString();
    }
}
