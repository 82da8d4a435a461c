import java.util.Random;
import java.util.TreeMap;
import java.util.TreeSet;

/** Long mixed runs, always the same ones, told to a keeper and to the model of the document. */
public final class ModelTest {
    private static final int RUNS = 400;
    private static final int CALLS = 512;
    private static final int[] WILD = {Integer.MIN_VALUE, Integer.MIN_VALUE + 1, -65536, -257, -256, -65, -64,
        -2, -1, 0, 1, 2, 7, 8, 63, 64, 128, 255, 256, 257, 511, 512, 65536, Integer.MAX_VALUE - 1, Integer.MAX_VALUE};

    private final Checks checks = new Checks();
    private final TreeMap<String, TreeSet<String>> seen = new TreeMap<>();
    private TextKeeper keeper;
    private Model model;
    private Random random;
    private StringBuilder last;
    private int run;
    private int calls;
    private boolean stopped;

    public static void main(String[] args) {
        ModelTest test = new ModelTest();
        for (int run = 0; run < RUNS; run++) {
            test.oneRun(run);
        }
        test.seenWhatMatters();
        test.checks.finish("ModelTest");
    }

    private void oneRun(int number) {
        run = number;
        keeper = new TextKeeper();
        model = new Model();
        random = new Random(number * 7919L + 17);
        last = new StringBuilder();
        calls = 0;
        stopped = false;
        int documents = run % 8 == 0 ? random.nextInt(10) : 1;
        for (int k = 0; k < documents; k++) {
            tell(Calls.MAKE);
        }
        while (calls < CALLS && !stopped) {
            step();
        }
    }

    /** What is asked most depends on the run, so that some have many revisions and some many faults. */
    private void step() {
        int kind = random.nextInt(100);
        int document = document();
        int commits = run % 3 == 0 ? 60 : 25;
        if (kind < commits) {
            commit(document);
        } else if (kind < commits + 3 && run % 2 == 0) {
            int r = revision(document);
            tell(Calls.DAMAGE, document, r, random.nextInt(12) - 1, random.nextInt());
            tell(Calls.FETCH, document, r);
        } else if (kind == 99) {
            tell(Calls.CUT, random.nextInt(12) - 1);
        } else if (kind == 98) {
            tell(Calls.MAKE);
        } else if (kind == 97 && random.nextInt(3) == 0) {
            tell(Calls.DROP, document);
        } else if (kind == 96) {
            tell(Calls.TRIM, document, revision(document));
        } else if (kind >= 90) {
            tellWild(document);
        } else {
            ask(document);
        }
        if (keeper.isDown() && random.nextInt(3) == 0) {
            tell(Calls.START);
        }
    }

    private void ask(int document) {
        int r = revision(document);
        switch (random.nextInt(16)) {
            case 0: tell(Calls.OUT, random.nextInt(260) - 2); break;
            case 1: tell(Calls.STEPS); break;
            case 2: tell(Calls.ABOUT, document, random.nextInt(4) - 1); break;
            case 3: tell(Calls.REVISION, document, r, random.nextInt(5) - 1); break;
            case 4: case 5: tell(Calls.PIECE_BYTE, document, r, random.nextInt(20) - 1); break;
            case 6: tell(Calls.VERIFY, document); break;
            case 7: case 8: tell(Calls.COMMON, document, r, revision(document), random.nextInt(4) - 1); break;
            case 9: tell(Calls.FREE); break;
            case 10: tell(Calls.IS_DOWN); break;
            case 11: tell(Calls.START); break;
            case 12: tell(Calls.END, random.nextInt(300) - 20); break;
            case 13: tell(Calls.REVISION, document, r, 0); break;
            case 14: fillBuffer(); break;
            default: tell(Calls.FETCH, document, r); break;
        }
    }

    /** Any call with any arguments, the first now and then a document: none may throw by itself. */
    private void tellWild(int document) {
        int call = random.nextInt(Calls.NAMES.length);
        // What changes much is seldom asked, so that there is something to ask the others of.
        if ((call == Calls.MAKE || call == Calls.DROP || call == Calls.CUT) && random.nextInt(4) != 0) {
            return;
        }
        int[] a = new int[Calls.ARGUMENTS[call]];
        for (int i = 0; i < a.length; i++) {
            a[i] = random.nextInt(4) == 0 ? random.nextInt() : WILD[random.nextInt(WILD.length)];
        }
        if (a.length > 1 && random.nextBoolean()) {
            a[0] = document;
        }
        tell(call, a);
    }

    private int document() {
        return random.nextInt(6) == 0 ? random.nextInt(11) - 1 : run % 4 == 0 ? random.nextInt(3) : 0;
    }

    private int revision(int document) {
        String newest = model.answer(Calls.ABOUT, document, 1);
        int top = newest.startsWith("throws") ? 0 : Integer.parseInt(newest);
        return random.nextInt(8) == 0 ? random.nextInt(70) - 3 : random.nextInt(top + 2);
    }

    private void commit(int document) {
        String text = nextText();
        tell(Calls.END, 0);
        for (int from = 0; from < text.length() && !stopped; from += 20) {
            if (from + 20 > 256) {
                // Twenty bytes have no room there, so the last ones come from further ahead.
                from = 236;
                tell(Calls.END, from);
            }
            tell(Calls.FEED, word(text, from), word(text, from + 4), word(text, from + 8),
                word(text, from + 12), word(text, from + 16));
        }
        tell(Calls.END, text.length());
        tell(Calls.COMMIT, document, random.nextInt());
    }

    private void fillBuffer() {
        int feeds = random.nextInt(4) == 0 ? 14 : 1;
        for (int k = 0; k < feeds; k++) {
            tell(Calls.FEED, random.nextInt(), random.nextInt(), random.nextInt(), random.nextInt(), random.nextInt());
        }
    }

    private static int word(String text, int from) {
        int word = 0;
        for (int i = from; i < from + 4; i++) {
            word = word << 8 | (i < text.length() ? text.charAt(i) : 0);
        }
        return word;
    }

    /** Mostly the text before with some changes, now and then another one. */
    private String nextText() {
        int letters = run % 5 == 0 ? 2 : run % 5 == 1 ? 256 : 4;
        if (random.nextInt(6) == 0) {
            last.setLength(0);
        }
        int changes = 1 + random.nextInt(4);
        for (int k = 0; k < changes; k++) {
            int at = random.nextInt(last.length() + 1);
            if (random.nextInt(3) == 0) {
                last.delete(at, Math.min(last.length(), at + random.nextInt(30)));
            } else {
                int n = random.nextInt(run % 3 == 0 ? 12 : 90);
                for (int i = 0; i < n; i++) {
                    last.insert(at, (char) random.nextInt(letters));
                }
            }
        }
        // Short texts leave calls for all 64 revisions.
        int most = run % 3 == 0 ? 40 : 256;
        if (last.length() > most) {
            last.setLength(most);
        }
        return last.toString();
    }

    private void tell(int call, int... a) {
        if (calls == CALLS || stopped) {
            return;
        }
        calls++;
        String want = model.answer(call, a);
        String got = Calls.answer(keeper, call, a);
        checks.due("run " + run + ", call " + calls + ": " + Calls.told(call, a), got, want);
        boolean small = want.startsWith("throws") || want.startsWith("-") || want.equals("true") || want.equals("false");
        seen.computeIfAbsent(Calls.NAMES[call], k -> new TreeSet<>()).add(small ? want : "number");
        // After one wrong answer the two are no longer in the same state.
        stopped = !got.equals(want);
    }

    /** The runs are worth something only if they reach each kind of answer. */
    private void seenWhatMatters() {
        String down = "throws.IllegalStateException";
        String none = "throws.NoSuchElementException";
        String argument = "throws.IllegalArgumentException";
        reached("feed", "true", "false", down);
        reached("end", "true", "false", down);
        reached("make", "number", "-1", down);
        reached("commit", "number", "-1", down);
        reached("fetch", "number", "-1", "-2", down);
        reached("out", "number", "-1", down);
        reached("steps", "number", "-1", down);
        reached("trim", "true", "false", down);
        reached("dropDocument", "true", "false", down);
        reached("about", "number", "-1", none, argument, down);
        reached("revision", "number", none, argument, down);
        reached("pieceByte", "number", "-1", down);
        reached("damage", "true", "false", down);
        reached("verify", "number", "-1", down);
        reached("common", "number", "-1", "-2", down);
        reached("freeBlocks", "number", down);
        reached("cutAfter", "true", "false", down);
        reached("start", "true", "false");
        reached("isDown", "true", "false");
    }

    private void reached(String name, String... answers) {
        for (String answer : answers) {
            checks.due(name + " ever answering " + answer, seen.getOrDefault(name, new TreeSet<>()).contains(answer), true);
        }
    }
}
