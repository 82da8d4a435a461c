import java.util.ArrayList;
import java.util.List;
import java.util.NoSuchElementException;
import java.util.TreeSet;

/**
 * The document once more, in its own words and with other means than the program's: texts are
 * Strings of characters 0 to 255, bases are found by recursion, what is kept is reckoned anew.
 */
final class Model {
    private static final int NONE = -1;
    private static final int BAD = -2;

    private static final class Kept {
        final StringBuilder piece;
        final int author;
        final int sum;

        Kept(String piece, int author, int sum) {
            this.piece = new StringBuilder(piece);
            this.author = author;
            this.sum = sum;
        }
    }

    private static final class Doc {
        final List<Kept> revisions = new ArrayList<>();
        int first = 0;

        TreeSet<Integer> keptNumbers() {
            TreeSet<Integer> kept = new TreeSet<>();
            for (int r = first; r < revisions.size(); r++) {
                addWithBases(kept, r);
            }
            return kept;
        }

        private static void addWithBases(TreeSet<Integer> kept, int r) {
            kept.add(r);
            if (r > 0) {
                addWithBases(kept, r - Integer.lowestOneBit(r));
            }
        }

        boolean asked(int r) {
            return r >= first && r < revisions.size();
        }
    }

    private final List<Doc> docs = new ArrayList<>();
    private String buffer = "";
    private String text = null;
    private int textSteps = 0;
    private boolean down = false;
    private long writesLeft = Long.MAX_VALUE;

    String answer(int call, int... a) {
        try {
            return String.valueOf(ask(call, a));
        } catch (RuntimeException e) {
            return Calls.thrown(e);
        }
    }

    /** The piece of a text, as the document tells it. */
    static String pieceOf(String text, String base) {
        StringBuilder piece = new StringBuilder();
        StringBuilder waiting = new StringBuilder();
        int i = 0;
        while (i < text.length()) {
            int n = text.length() - i;
            while (n > 0 && !base.contains(text.substring(i, i + n))) {
                n--;
            }
            if (n >= 4) {
                piece.append(insertOf(waiting.toString()));
                waiting.setLength(0);
                piece.append(numberOf(2 * n + 1)).append(numberOf(base.indexOf(text.substring(i, i + n))));
                i += n;
            } else {
                waiting.append(text.charAt(i));
                i++;
            }
        }
        piece.append(insertOf(waiting.toString()));
        String whole = insertOf(text);
        return piece.length() > whole.length() ? whole : piece.toString();
    }

    private static String insertOf(String bytes) {
        return bytes.isEmpty() ? "" : numberOf(2 * bytes.length()) + bytes;
    }

    private static String numberOf(int n) {
        return n < 128 ? String.valueOf((char) n) : (char) (n % 128 + 128) + numberOf(n / 128);
    }

    static int sumOf(String text) {
        int s = 0;
        for (char c : text.toCharArray()) {
            s = s * 31 + c + 1;
        }
        return s;
    }

    private static String made(Doc d, int r) {
        String base = r == 0 ? "" : made(d, r - Integer.lowestOneBit(r));
        if (base == null || !d.keptNumbers().contains(r)) {
            return null;
        }
        return obeyed(d.revisions.get(r).piece.toString(), base);
    }

    private static String obeyed(String piece, String base) {
        StringBuilder made = new StringBuilder();
        String rest = piece;
        while (!rest.isEmpty()) {
            int digits = digitsAt(rest);
            if (digits == 0) {
                return null;
            }
            int head = valueOf(rest.substring(0, digits));
            rest = rest.substring(digits);
            int n = head / 2;
            if (n == 0) {
                return null;
            }
            if (head % 2 == 0) {
                if (n > rest.length()) {
                    return null;
                }
                made.append(rest, 0, n);
                rest = rest.substring(n);
            } else {
                digits = digitsAt(rest);
                if (digits == 0) {
                    return null;
                }
                int p = valueOf(rest.substring(0, digits));
                rest = rest.substring(digits);
                if (p + n > base.length()) {
                    return null;
                }
                made.append(base, p, p + n);
            }
            if (made.length() > 256) {
                return null;
            }
        }
        return made.toString();
    }

    /** How many bytes the number has that a piece begins with; 0 if it can't be read. */
    private static int digitsAt(String piece) {
        for (int k = 0; k < 3 && k < piece.length(); k++) {
            if (piece.charAt(k) < 128) {
                return k + 1;
            }
        }
        return 0;
    }

    private static int valueOf(String digits) {
        int value = 0;
        for (int k = digits.length() - 1; k >= 0; k--) {
            value = value * 128 + digits.charAt(k) % 128;
        }
        return value;
    }

    private Doc doc(int number) {
        return number < 0 || number >= docs.size() ? null : docs.get(number);
    }

    private Kept piece(int document, int r) {
        Doc d = doc(document);
        return d != null && d.keptNumbers().contains(r) ? d.revisions.get(r) : null;
    }

    private static int blocks(int bytes) {
        return bytes % 32 == 0 ? bytes / 32 : bytes / 32 + 1;
    }

    private int free() {
        int free = 512;
        for (Doc d : docs) {
            if (d != null) {
                for (int r : d.keptNumbers()) {
                    free -= blocks(d.revisions.get(r).piece.length());
                }
            }
        }
        return free;
    }

    private void write(int writes) {
        for (int k = 0; k < writes; k++) {
            if (writesLeft == 0) {
                down = true;
                buffer = "";
                throw new IllegalStateException();
            }
            if (writesLeft != Long.MAX_VALUE) {
                writesLeft--;
            }
        }
    }

    private Object ask(int call, int[] a) {
        if (call == Calls.IS_DOWN) {
            return down;
        }
        if (call == Calls.START) {
            boolean was = down;
            if (was) {
                down = false;
                writesLeft = Long.MAX_VALUE;
            }
            return was;
        }
        if (down) {
            throw new IllegalStateException();
        }
        switch (call) {
            case Calls.FEED: return feed(a);
            case Calls.END: return end(a[0]);
            case Calls.MAKE: return make();
            case Calls.COMMIT: return commit(a[0], a[1]);
            case Calls.FETCH: return fetch(a[0], a[1]);
            case Calls.OUT: return text == null || a[0] < 0 || a[0] >= text.length() ? NONE : (int) text.charAt(a[0]);
            case Calls.STEPS: return text == null ? NONE : textSteps;
            case Calls.TRIM: return trim(a[0], a[1]);
            case Calls.DROP: return drop(a[0]);
            case Calls.ABOUT: return about(a[0], a[1]);
            case Calls.REVISION: return revision(a[0], a[1], a[2]);
            case Calls.PIECE_BYTE: return pieceByte(a[0], a[1], a[2]);
            case Calls.DAMAGE: return damage(a[0], a[1], a[2], a[3]);
            case Calls.VERIFY: return verify(a[0]);
            case Calls.COMMON: return common(a[0], a[1], a[2], a[3]);
            case Calls.FREE: return free();
            case Calls.CUT: return cut(a[0]);
            default: throw new UnsupportedOperationException();
        }
    }

    private boolean feed(int[] a) {
        if (buffer.length() + 20 > 256) {
            return false;
        }
        for (int i = 0; i < 20; i++) {
            buffer += (char) (a[i / 4] >>> (24 - i % 4 * 8) & 255);
        }
        return true;
    }

    private boolean end(int n) {
        if (n < 0 || n > buffer.length()) {
            return false;
        }
        buffer = buffer.substring(0, n);
        return true;
    }

    private int make() {
        if (docs.size() == 8) {
            return NONE;
        }
        write(1);
        docs.add(new Doc());
        return docs.size() - 1;
    }

    private int commit(int document, int author) {
        Doc d = doc(document);
        if (d == null || d.revisions.size() == 64) {
            return NONE;
        }
        int r = d.revisions.size();
        String base = r == 0 ? "" : made(d, r - Integer.lowestOneBit(r));
        if (base == null) {
            return NONE;
        }
        String piece = pieceOf(buffer, base);
        if (blocks(piece.length()) > free()) {
            return NONE;
        }
        write(blocks(piece.length()) + 1);
        d.revisions.add(new Kept(piece, author, sumOf(buffer)));
        buffer = "";
        return r;
    }

    private int fetch(int document, int r) {
        Doc d = doc(document);
        if (d == null || !d.asked(r)) {
            return NONE;
        }
        String made = made(d, r);
        if (made == null) {
            return BAD;
        }
        text = made;
        textSteps = 0;
        for (int k = r; k != 0; k -= Integer.lowestOneBit(k)) {
            textSteps++;
        }
        return text.length();
    }

    private boolean trim(int document, int r) {
        Doc d = doc(document);
        if (d == null || !d.asked(r)) {
            return false;
        }
        write(1);
        d.first = r;
        return true;
    }

    private boolean drop(int document) {
        if (doc(document) == null) {
            return false;
        }
        write(1);
        docs.set(document, null);
        return true;
    }

    private int about(int document, int what) {
        Doc d = doc(document);
        if (d == null) {
            throw new NoSuchElementException();
        }
        if (what != 0 && what != 1) {
            throw new IllegalArgumentException();
        }
        return what == 0 ? d.first : d.revisions.size() - 1;
    }

    private int revision(int document, int r, int what) {
        Doc d = doc(document);
        Kept kept = piece(document, r);
        if (kept == null || (!d.asked(r) && what != 0 && what != 2)) {
            throw new NoSuchElementException();
        }
        if (what < 0 || what > 2) {
            throw new IllegalArgumentException();
        }
        return what == 0 ? kept.piece.length() : what == 1 ? kept.author : kept.sum;
    }

    private int pieceByte(int document, int r, int i) {
        Kept kept = piece(document, r);
        return kept == null || i < 0 || i >= kept.piece.length() ? NONE : kept.piece.charAt(i);
    }

    private boolean damage(int document, int r, int i, int mask) {
        if (pieceByte(document, r, i) == NONE) {
            return false;
        }
        StringBuilder piece = piece(document, r).piece;
        piece.setCharAt(i, (char) (piece.charAt(i) ^ (mask & 255)));
        return true;
    }

    private int verify(int document) {
        Doc d = doc(document);
        for (int r = 0; d != null && r < d.revisions.size(); r++) {
            String made = d.asked(r) ? made(d, r) : null;
            if (d.asked(r) && (made == null || sumOf(made) != d.revisions.get(r).sum)) {
                return r;
            }
        }
        return NONE;
    }

    private int common(int document, int one, int other, int which) {
        Doc d = doc(document);
        if (d == null || !d.asked(one) || !d.asked(other) || which < 0 || which > 1) {
            return NONE;
        }
        String a = made(d, one);
        String b = made(d, other);
        if (a == null || b == null) {
            return BAD;
        }
        int ahead = Math.min(a.length(), b.length());
        while (!a.startsWith(b.substring(0, ahead))) {
            ahead--;
        }
        String restA = a.substring(ahead);
        String restB = b.substring(ahead);
        int behind = Math.min(restA.length(), restB.length());
        while (!restA.endsWith(restB.substring(restB.length() - behind))) {
            behind--;
        }
        return which == 0 ? ahead : behind;
    }

    private boolean cut(int writes) {
        if (writes < 0) {
            return false;
        }
        writesLeft = writes;
        return true;
    }
}
