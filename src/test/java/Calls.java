/** The calls of the face by number, so that a run can be told to a keeper and to the model. */
final class Calls {
    static final String[] NAMES = {"feed", "end", "make", "commit", "fetch", "out", "steps", "trim",
        "dropDocument", "about", "revision", "pieceByte", "damage", "verify", "common", "freeBlocks",
        "cutAfter", "start", "isDown"};
    static final int[] ARGUMENTS = {5, 1, 0, 2, 2, 1, 0, 2, 1, 2, 3, 3, 4, 1, 4, 0, 1, 0, 0};

    static final int FEED = 0;
    static final int END = 1;
    static final int MAKE = 2;
    static final int COMMIT = 3;
    static final int FETCH = 4;
    static final int OUT = 5;
    static final int STEPS = 6;
    static final int TRIM = 7;
    static final int DROP = 8;
    static final int ABOUT = 9;
    static final int REVISION = 10;
    static final int PIECE_BYTE = 11;
    static final int DAMAGE = 12;
    static final int VERIFY = 13;
    static final int COMMON = 14;
    static final int FREE = 15;
    static final int CUT = 16;
    static final int START = 17;
    static final int IS_DOWN = 18;

    private Calls() {
    }

    static String answer(TextKeeper x, int call, int... a) {
        try {
            return String.valueOf(ask(x, call, a));
        } catch (RuntimeException e) {
            return thrown(e);
        }
    }

    static String thrown(RuntimeException e) {
        return "throws." + e.getClass().getSimpleName();
    }

    static String told(int call, int... a) {
        StringBuilder text = new StringBuilder(NAMES[call]).append('(');
        for (int i = 0; i < ARGUMENTS[call]; i++) {
            text.append(i == 0 ? "" : ", ").append(a[i]);
        }
        return text.append(')').toString();
    }

    private static Object ask(TextKeeper x, int call, int[] a) {
        switch (call) {
            case FEED: return x.feed(a[0], a[1], a[2], a[3], a[4]);
            case END: return x.end(a[0]);
            case MAKE: return x.make();
            case COMMIT: return x.commit(a[0], a[1]);
            case FETCH: return x.fetch(a[0], a[1]);
            case OUT: return x.out(a[0]);
            case STEPS: return x.steps();
            case TRIM: return x.trim(a[0], a[1]);
            case DROP: return x.dropDocument(a[0]);
            case ABOUT: return x.about(a[0], a[1]);
            case REVISION: return x.revision(a[0], a[1], a[2]);
            case PIECE_BYTE: return x.pieceByte(a[0], a[1], a[2]);
            case DAMAGE: return x.damage(a[0], a[1], a[2], a[3]);
            case VERIFY: return x.verify(a[0]);
            case COMMON: return x.common(a[0], a[1], a[2], a[3]);
            case FREE: return x.freeBlocks();
            case CUT: return x.cutAfter(a[0]);
            case START: return x.start();
            case IS_DOWN: return x.isDown();
            default: throw new IllegalArgumentException("no such call");
        }
    }
}
