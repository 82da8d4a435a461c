/** The sentences of the promises 18 to 20: cutAfter, start, isDown. */
final class PowerSentences extends Asking {
    PowerSentences(Checks checks) {
        super(checks);
    }

    private void beginWithRevision() {
        beginWithDocument();
        commitText(0, "abcd");
    }

    @Sentence("Power goes after so many writes more, from 0 on")
    void promise18_after0And1And2And20Writes() {
        for (int writes : new int[] {0, 1, 2, 20}) {
            beginWithRevision();
            ask(true, Calls.CUT, writes);
            writesLeftAre(writes, 0, 1);
        }
    }

    @Sentence("Power goes after so many writes more, from 0 on")
    void promise18_afterTheMostWrites() {
        beginWithRevision();
        ask(true, Calls.CUT, HIGHEST);
        write(63, 0, 1);
        ask(1, Calls.MAKE);
        ask(false, Calls.IS_DOWN);
        ask(true, Calls.CUT, HIGHEST - 1);
        ask(2, Calls.MAKE);
    }

    @Sentence("in the first call that is to do a further one")
    void promise18_notBeforeACallThatWrites() {
        beginWithRevision();
        ask(true, Calls.CUT, 0);
        ask(true, Calls.FEED, 1, 2, 3, 4, 5);
        ask(true, Calls.END, 4);
        ask(4, Calls.FETCH, 0, 0);
        ask((int) 'a', Calls.OUT, 0);
        ask(0, Calls.STEPS);
        ask(0, Calls.ABOUT, 0, 1);
        ask(5, Calls.REVISION, 0, 0, 0);
        ask(8, Calls.PIECE_BYTE, 0, 0, 0);
        ask(true, Calls.DAMAGE, 0, 0, 0, 0);
        ask(NONE, Calls.VERIFY, 0);
        ask(4, Calls.COMMON, 0, 0, 0, 0);
        ask(511, Calls.FREE);
        ask(false, Calls.START);
        ask(false, Calls.IS_DOWN);
        ask(DOWN, Calls.MAKE);
        ask(true, Calls.IS_DOWN);
    }

    @Sentence("in the first call that is to do a further one")
    void promise18_notInACallThatIsRefused() {
        beginWithRevision();
        ask(true, Calls.CUT, 0);
        ask(NONE, Calls.COMMIT, 1, 1);
        ask(false, Calls.TRIM, 0, 1);
        ask(false, Calls.TRIM, 1, 0);
        ask(false, Calls.DROP, 1);
        ask(NONE, Calls.FETCH, 0, 1);
        ask(NO_SUCH, Calls.ABOUT, 1, 0);
        ask(ARGUMENT, Calls.ABOUT, 0, 2);
        setPiece(0, 10);
        ask(NONE, Calls.COMMIT, 0, 1);
        ask(false, Calls.IS_DOWN);
        ask(DOWN, Calls.DROP, 0);
    }

    @Sentence("in the first call that is to do a further one")
    void promise18_aCommitOfTwoWritesWithOneLeft() {
        beginWithRevision();
        ask(true, Calls.CUT, 2);
        ask(1, Calls.MAKE);
        fill("x");
        ask(DOWN, Calls.COMMIT, 0, 1);
        ask(true, Calls.START);
        ask(0, Calls.ABOUT, 0, 1);
        ask(true, Calls.CUT, 3);
        ask(2, Calls.MAKE);
        fill("x");
        ask(1, Calls.COMMIT, 0, 1);
        ask(DOWN, Calls.MAKE);
    }

    @Sentence("(in place of what was told before): true")
    void promise18_inPlaceOfWhatWasToldBefore() {
        beginWithRevision();
        ask(true, Calls.CUT, 0);
        ask(true, Calls.CUT, 2);
        write(1, 0, 1);
        ask(true, Calls.CUT, 3);
        writesLeftAre(3, 0, 2);
        beginWithRevision();
        ask(true, Calls.CUT, 5);
        ask(true, Calls.CUT, 1);
        writesLeftAre(1, 0, 1);
    }

    @Sentence("false if writes is below 0.")
    void promise18_falseIfBelow0() {
        beginWithRevision();
        ask(false, Calls.CUT, -1);
        ask(false, Calls.CUT, LOWEST);
        write(2, 0, 1);
        fill("buffer");
        ask(true, Calls.CUT, 2);
        ask(false, Calls.CUT, -1);
        ask(false, Calls.CUT, -3);
        ask(false, Calls.CUT, LOWEST);
        bufferHas(6);
        writesLeftAre(2, 0, 3);
    }

    @Sentence("IllegalStateException if it is down.")
    void promise18_throwsIfDown() {
        beginWithRevision();
        goDown();
        ask(DOWN, Calls.CUT, 0);
        ask(DOWN, Calls.CUT, 5);
        ask(DOWN, Calls.CUT, -1);
        ask(true, Calls.START);
        write(10, 0, 1);
    }

    @Sentence("Power is on again")
    void promise19_powerIsOnAgain() {
        beginWithRevision();
        String before = seen();
        goDown();
        ask(true, Calls.START);
        ask(false, Calls.IS_DOWN);
        isAsBefore(before);
        bufferHas(0);
        commitText(1, "next");
        textIs(0, 1, "next");
    }

    @Sentence("and does not go: true")
    void promise19_powerDoesNotGoAgain() {
        beginWithRevision();
        ask(true, Calls.CUT, 1);
        fill("x");
        // The commit would do two writes, so one of those told is left over.
        ask(DOWN, Calls.COMMIT, 0, 1);
        ask(true, Calls.START);
        write(50, 0, 1);
        ask(true, Calls.CUT, 0);
        ask(DOWN, Calls.DROP, 0);
        ask(true, Calls.START);
        ask(1, Calls.MAKE);
    }

    @Sentence("false if it is not down.")
    void promise19_falseIfNotDown() {
        ask(false, Calls.START);
        beginWithRevision();
        fill("buffer");
        ask(4, Calls.FETCH, 0, 0);
        String before = seen();
        ask(true, Calls.CUT, 1);
        ask(false, Calls.START);
        isAsBefore(before);
        bufferHas(6);
        // What cutAfter told holds on.
        writesLeftAre(1, 0, 1);
        ask(true, Calls.START);
        ask(false, Calls.START);
    }

    @Sentence("Whether it is down.")
    void promise20_downFromTheLossOfPowerToStart() {
        ask(false, Calls.IS_DOWN);
        ask(0, Calls.MAKE);
        ask(true, Calls.CUT, 0);
        ask(false, Calls.IS_DOWN);
        ask(DOWN, Calls.MAKE);
        ask(true, Calls.IS_DOWN);
        ask(true, Calls.IS_DOWN);
        ask(DOWN, Calls.FREE);
        ask(true, Calls.IS_DOWN);
        ask(true, Calls.START);
        ask(false, Calls.IS_DOWN);
        ask(1, Calls.MAKE);
        ask(false, Calls.IS_DOWN);
    }
}
