import java.util.Arrays;

/** The sentences of "What it is". */
final class WhatItIsSentences extends Asking {
    /** A run of calls that write, with its answers; a row is a call and its arguments. */
    private static final int[][] WRITING = {{Calls.MAKE}, {Calls.COMMIT, 0, 7}, {Calls.COMMIT, 0, 8},
        {Calls.MAKE}, {Calls.COMMIT, 1, 9}, {Calls.TRIM, 0, 1}, {Calls.DROP, 1}, {Calls.COMMIT, 0, 5}};
    private static final Object[] WRITTEN = {0, 0, 1, 1, 0, true, true, 2};
    /** Each commit's piece is of one INSERT of 62 bytes, so it takes two blocks and three writes. */
    private static final int[] WRITES = {1, 3, 3, 1, 3, 1, 1, 3};

    WhatItIsSentences(Checks checks) {
        super(checks);
    }

    @Sentence("A keeper of texts that change: each new text is kept as what it differs in from one of those before it")
    void whatItIs_keptAsWhatItDiffersIn() {
        ask(0, Calls.MAKE);
        commitText(0, rising(0, 100));
        commitText(1, rising(0, 50) + "!" + rising(50, 50));
        pieceIs(1, 101, 0, 2, '!', 101, 50);
    }

    @Sentence("so chosen that any of them is made again in few steps")
    void whatItIs_anyIsMadeAgainInSixStepsAtMost() {
        beginWithRevisionsOf20Bytes(64);
        for (int r = 0; r < 64; r++) {
            ask(20, Calls.FETCH, 0, r);
            ask(Integer.toBinaryString(r).replace("0", "").length(), Calls.STEPS);
            ask(r, Calls.OUT, 19);
        }
    }

    @Sentence("the oldest can be cut off")
    void whatItIs_theOldestCanBeCutOff() {
        ask(0, Calls.MAKE);
        commitText(0, "old");
        commitText(1, "new");
        ask(true, Calls.TRIM, 0, 1);
        ask(NONE, Calls.FETCH, 0, 0);
        textIs(0, 1, "new");
    }

    @Sentence("a fault in what is kept is found")
    void whatItIs_aFaultIsFound() {
        ask(0, Calls.MAKE);
        commitText(0, "sound");
        ask(NONE, Calls.VERIFY, 0);
        ask(true, Calls.DAMAGE, 0, 0, 5, 1);
        ask(0, Calls.VERIFY, 0);
    }

    /** Wherever power goes, what was done before stands, and the rest can be done after start. */
    @Sentence("and power may go between any two writes.")
    void whatItIs_powerGoesBetweenAnyTwoWrites() {
        writeFrom(0);
        String whole = seen();
        int all = Arrays.stream(WRITES).sum();
        for (int writes = 0; writes <= all; writes++) {
            begin();
            ask(true, Calls.CUT, writes);
            int next = writeWhilePowerLasts(writes);
            if (next < WRITING.length) {
                ask(true, Calls.START);
                bufferHas(0);
                writeFrom(next);
            }
            isAsBefore(whole);
        }
    }

    private int writeWhilePowerLasts(int writes) {
        int left = writes;
        int next = 0;
        while (next < WRITING.length && left >= WRITES[next]) {
            left -= WRITES[next];
            askWriting(next, WRITTEN[next]);
            next++;
        }
        if (next < WRITING.length) {
            askWriting(next, DOWN);
        }
        return next;
    }

    private void writeFrom(int next) {
        for (int k = next; k < WRITING.length; k++) {
            askWriting(k, WRITTEN[k]);
        }
    }

    private void askWriting(int k, Object want) {
        int[] call = WRITING[k];
        if (call[0] == Calls.COMMIT) {
            fill(run('a' + k, 62));
        }
        ask(want, call[0], Arrays.copyOfRange(call, 1, 3));
    }

    @Sentence("An object is used for at most 512 calls after it has been made")
    void whatItIs_call511And512AnswerStill() {
        for (int d = 0; d < 3; d++) {
            ask(d, Calls.MAKE);
        }
        for (int k = 0; k < 169; k++) {
            int d = k / 64;
            ask(true, Calls.FEED, k, 1, 2, 3, 4);
            ask(true, Calls.FEED, 5, 6, 7, 8, 9);
            ask(k % 64, Calls.COMMIT, d, k);
        }
        due("calls so far", callsMade(), 510);
        ask(NONE, Calls.VERIFY, 2);
        ask(40, Calls.FETCH, 2, 40);
        due("calls so far", callsMade(), 512);
    }

    /** No answer is due then; but a call ends, and throws nothing that the face does not name. */
    @Sentence("what later calls answer is free.")
    void whatItIs_laterCallsEnd() {
        TextKeeper keeper = new TextKeeper();
        for (int k = 0; k < 2000; k++) {
            int call = k % Calls.NAMES.length;
            String answer = Calls.answer(keeper, call, k % 3, k % 5, k % 7, k % 11, k);
            boolean named = !answer.startsWith("throws.") || answer.equals(DOWN)
                || (call == Calls.ABOUT || call == Calls.REVISION)
                && (answer.equals(NO_SUCH) || answer.equals(ARGUMENT));
            due("call " + k + ", " + Calls.NAMES[call] + ", " + answer + ", is of the face", named, true);
        }
    }
}
