import java.util.Arrays;
import java.util.NoSuchElementException;

/**
 * A keeper of texts that change: each new text is kept as what it differs in from one of those
 * before it, so chosen that any of them is made again in few steps.
 */
public final class TextKeeper {
    public static final int NONE = -1;
    public static final int BAD = -2;

    private static final int MOST_DOCUMENTS = 8;
    private static final int MOST_REVISIONS = 64;
    private static final int MOST_BYTES = 256;
    private static final int FED_BYTES = 20;
    private static final int ALL_BLOCKS = 512;
    private static final int BLOCK_BYTES = 32;
    private static final int SHORTEST_COPY = 4;
    private static final int MOST_DIGITS = 3;
    private static final int DIGIT_BITS = 7;
    private static final int DIGIT_BASE = 128;
    private static final int LOW_BYTE = 255;

    private final Document[] documents;
    private final Text buffer;
    private final Text fetched;
    private final Text compared;
    private final Maker maker;
    private final PieceWriter writer;
    private final Power power;
    private int madeDocuments;
    private int fetchedSteps;

    public TextKeeper() {
        documents = new Document[MOST_DOCUMENTS];
        buffer = new Text();
        fetched = new Text();
        compared = new Text();
        maker = new Maker();
        writer = new PieceWriter();
        power = new Power();
        madeDocuments = 0;
        fetchedSteps = NONE;
    }

    public boolean feed(int a, int b, int c, int d, int e) throws IllegalStateException {
        needPower();
        if (!buffer.hasRoom(FED_BYTES)) {
            return false;
        }
        buffer.addInt(a);
        buffer.addInt(b);
        buffer.addInt(c);
        buffer.addInt(d);
        buffer.addInt(e);
        return true;
    }

    public boolean end(int n) throws IllegalStateException {
        needPower();
        return buffer.shorten(n);
    }

    public int make() throws IllegalStateException {
        needPower();
        if (madeDocuments >= MOST_DOCUMENTS) {
            return NONE;
        }
        spendWrites(1);
        int number = madeDocuments;
        documents[number] = new Document();
        madeDocuments++;
        return number;
    }

    public int commit(int document, int author) throws IllegalStateException {
        needPower();
        Document d = documentAt(document);
        if (d == null || d.isFull()) {
            return NONE;
        }
        Text base = maker.makeBase(d, d.count);
        if (base == null) {
            return NONE;
        }
        byte[] piece = writer.pieceOf(buffer, base);
        int blocks = blocksFor(piece.length);
        if (blocks > countFree()) {
            return NONE;
        }
        spendWrites(blocks + 1);
        d.add(new Revision(piece, author, buffer.sum()));
        buffer.shorten(0);
        return d.newest();
    }

    public int fetch(int document, int revision) throws IllegalStateException {
        needPower();
        Document d = documentAt(document);
        if (d == null || !d.canBeAsked(revision)) {
            return NONE;
        }
        Text text = maker.makeAgain(d, revision);
        if (text == null) {
            return BAD;
        }
        fetched.become(text);
        fetchedSteps = Integer.bitCount(revision);
        return fetched.length;
    }

    public int out(int i) throws IllegalStateException {
        needPower();
        return fetched.byteAt(i);
    }

    public int steps() throws IllegalStateException {
        needPower();
        return fetchedSteps;
    }

    public boolean trim(int document, int revision) throws IllegalStateException {
        needPower();
        Document d = documentAt(document);
        if (d == null || !d.canBeAsked(revision)) {
            return false;
        }
        spendWrites(1);
        d.cutBefore(revision);
        return true;
    }

    public boolean dropDocument(int document) throws IllegalStateException {
        needPower();
        if (documentAt(document) == null) {
            return false;
        }
        spendWrites(1);
        documents[document] = null;
        return true;
    }

    public int about(int document, int what)
            throws NoSuchElementException, IllegalArgumentException, IllegalStateException {
        needPower();
        Document d = documentAt(document);
        if (d == null) {
            throw new NoSuchElementException();
        }
        switch (what) {
            case 0:
                return d.first;
            case 1:
                return d.newest();
            default:
                throw new IllegalArgumentException();
        }
    }

    public int revision(int document, int revision, int what)
            throws NoSuchElementException, IllegalArgumentException, IllegalStateException {
        needPower();
        Document d = documentAt(document);
        Revision kept = keptRevision(document, revision);
        boolean asked = d != null && d.canBeAsked(revision);
        // 0 and 2 alone see a revision that is kept only because others are made from it.
        if (kept == null || !asked && what != 0 && what != 2) {
            throw new NoSuchElementException();
        }
        switch (what) {
            case 0:
                return kept.piece.length;
            case 1:
                return kept.author;
            case 2:
                return kept.sum;
            default:
                throw new IllegalArgumentException();
        }
    }

    public int pieceByte(int document, int revision, int i) throws IllegalStateException {
        needPower();
        Revision kept = keptRevision(document, revision);
        if (kept == null || !kept.hasByte(i)) {
            return NONE;
        }
        return kept.piece[i] & LOW_BYTE;
    }

    public boolean damage(int document, int revision, int i, int mask)
            throws IllegalStateException {
        needPower();
        Revision kept = keptRevision(document, revision);
        if (kept == null || !kept.hasByte(i)) {
            return false;
        }
        kept.piece[i] = (byte) (kept.piece[i] ^ mask);
        return true;
    }

    public int verify(int document) throws IllegalStateException {
        needPower();
        Document d = documentAt(document);
        if (d == null) {
            return NONE;
        }
        for (int r = d.first; r < d.count; r++) {
            if (!isSound(d, r)) {
                return r;
            }
        }
        return NONE;
    }

    public int common(int document, int one, int other, int which) throws IllegalStateException {
        needPower();
        Document d = documentAt(document);
        if (d == null || !d.canBeAsked(one) || !d.canBeAsked(other)) {
            return NONE;
        }
        if (which != 0 && which != 1) {
            return NONE;
        }
        Text first = maker.makeAgain(d, one);
        if (first == null) {
            return BAD;
        }
        // The maker's rows are used again for the other text.
        compared.become(first);
        Text second = maker.makeAgain(d, other);
        if (second == null) {
            return BAD;
        }
        int ahead = compared.runWith(0, second, 0);
        return which == 0 ? ahead : compared.runBackWith(second, ahead);
    }

    public int freeBlocks() throws IllegalStateException {
        needPower();
        return countFree();
    }

    public boolean cutAfter(int writes) throws IllegalStateException {
        needPower();
        if (writes < 0) {
            return false;
        }
        power.goAfter(writes);
        return true;
    }

    public boolean start() {
        if (!power.down) {
            return false;
        }
        power.comeBack();
        return true;
    }

    public boolean isDown() {
        return power.down;
    }

    private void needPower() {
        if (power.down) {
            throw new IllegalStateException();
        }
    }

    /** Stands before the first change of each call that writes, so that nothing is half done. */
    private void spendWrites(int writes) {
        if (!power.lastsFor(writes)) {
            buffer.shorten(0);
            throw new IllegalStateException();
        }
    }

    private Document documentAt(int document) {
        return document >= 0 && document < MOST_DOCUMENTS ? documents[document] : null;
    }

    private Revision keptRevision(int document, int revision) {
        Document d = documentAt(document);
        return d == null ? null : d.keptAt(revision);
    }

    private boolean isSound(Document d, int revision) {
        Revision kept = d.keptAt(revision);
        Text text = maker.makeAgain(d, revision);
        return kept != null && text != null && text.sum() == kept.sum;
    }

    private int countFree() {
        int free = ALL_BLOCKS;
        for (Document d : documents) {
            if (d != null) {
                free -= d.countBlocks();
            }
        }
        return free;
    }

    private static int blocksFor(int bytes) {
        return (bytes + BLOCK_BYTES - 1) / BLOCK_BYTES;
    }

    private static int baseOf(int revision) {
        return revision & (revision - 1);
    }

    /** A row of at most 256 bytes. */
    private static final class Text {
        private final byte[] bytes;
        private int length;

        Text() {
            bytes = new byte[MOST_BYTES];
            length = 0;
        }

        int byteAt(int i) {
            return i >= 0 && i < length ? bytes[i] & LOW_BYTE : NONE;
        }

        boolean hasRoom(int n) {
            return n <= MOST_BYTES - length;
        }

        void addByte(int value) {
            if (length < MOST_BYTES) {
                bytes[length] = (byte) value;
                length++;
            }
        }

        void addInt(int value) {
            for (int shift = 24; shift >= 0; shift -= 8) {
                addByte(value >> shift);
            }
        }

        boolean shorten(int n) {
            if (n < 0 || n > length) {
                return false;
            }
            length = n;
            return true;
        }

        void become(Text other) {
            System.arraycopy(other.bytes, 0, bytes, 0, other.length);
            length = other.length;
        }

        int sum() {
            int s = 0;
            for (int i = 0; i < length; i++) {
                s = s * 31 + (bytes[i] & LOW_BYTE) + 1;
            }
            return s;
        }

        /** How many bytes from i on are those of the other text from j on. */
        int runWith(int i, Text other, int j) {
            int most = Math.min(length - i, other.length - j);
            int n = 0;
            while (n < most && bytes[i + n] == other.bytes[j + n]) {
                n++;
            }
            return n;
        }

        /** How many bytes from the end on are the other's too, but for so many at the beginning. */
        int runBackWith(Text other, int ahead) {
            int most = Math.min(length, other.length) - ahead;
            int n = 0;
            while (n < most && bytes[length - 1 - n] == other.bytes[other.length - 1 - n]) {
                n++;
            }
            return n;
        }
    }

    /** What is kept of a revision; damage may change the bytes of the piece. */
    private static final class Revision {
        private final byte[] piece;
        private final int author;
        private final int sum;

        Revision(byte[] piece, int author, int sum) {
            this.piece = piece;
            this.author = author;
            this.sum = sum;
        }

        boolean hasByte(int i) {
            return i >= 0 && i < piece.length;
        }
    }

    /** The revisions of a document; one whose piece is not kept is null. */
    private static final class Document {
        private final Revision[] revisions;
        private int first;
        private int count;

        Document() {
            revisions = new Revision[MOST_REVISIONS];
            first = 0;
            count = 0;
        }

        boolean isFull() {
            return count >= MOST_REVISIONS;
        }

        int newest() {
            return count > 0 ? count - 1 : NONE;
        }

        boolean canBeAsked(int revision) {
            return revision >= first && revision < count;
        }

        Revision keptAt(int revision) {
            return revision >= 0 && revision < count ? revisions[revision] : null;
        }

        void add(Revision revision) {
            if (count < MOST_REVISIONS) {
                revisions[count] = revision;
                count++;
            }
        }

        void cutBefore(int newFirst) {
            first = newFirst;
            // What a later revision needs from before the first, the first needs too: both have
            // the same bits above those that the later one's base has cleared.
            int needed = baseOf(newFirst);
            for (int r = newFirst - 1; r >= 0; r--) {
                if (r == needed) {
                    needed = baseOf(needed);
                } else {
                    revisions[r] = null;
                }
            }
        }

        int countBlocks() {
            int blocks = 0;
            for (int r = 0; r < count; r++) {
                if (revisions[r] != null) {
                    blocks += blocksFor(revisions[r].piece.length);
                }
            }
            return blocks;
        }
    }

    /** Writes the piece of a text, in a row that is used again for each. */
    private static final class PieceWriter {
        private final byte[] row;
        private int length;

        PieceWriter() {
            // No command has more bytes than twice those that it makes.
            row = new byte[2 * MOST_BYTES];
            length = 0;
        }

        byte[] pieceOf(Text text, Text base) {
            writeDifferences(text, base);
            if (length > digitsOf(2 * text.length) + text.length) {
                length = 0;
                writeInsert(text, 0, text.length);
            }
            return Arrays.copyOf(row, length);
        }

        private void writeDifferences(Text text, Text base) {
            length = 0;
            int notWritten = 0;
            int i = 0;
            while (i < text.length) {
                int place = placeOfLongest(text, i, base);
                int n = text.runWith(i, base, place);
                if (n >= SHORTEST_COPY) {
                    writeInsert(text, notWritten, i);
                    writeNumber(2 * n + 1);
                    writeNumber(place);
                    i += n;
                    notWritten = i;
                } else {
                    i++;
                }
            }
            writeInsert(text, notWritten, text.length);
        }

        private static int placeOfLongest(Text text, int i, Text base) {
            int longest = 0;
            int place = 0;
            for (int p = 0; p < base.length; p++) {
                int n = text.runWith(i, base, p);
                if (n > longest) {
                    longest = n;
                    place = p;
                }
            }
            return place;
        }

        private void writeInsert(Text text, int from, int to) {
            if (from >= to) {
                return;
            }
            writeNumber(2 * (to - from));
            for (int i = from; i < to; i++) {
                writeByte(text.byteAt(i));
            }
        }

        private void writeNumber(int number) {
            int rest = number;
            for (int digit = digitsOf(number); digit > 1; digit--) {
                writeByte(rest % DIGIT_BASE + DIGIT_BASE);
                rest /= DIGIT_BASE;
            }
            writeByte(rest);
        }

        private static int digitsOf(int number) {
            int digits = 1;
            for (int rest = number / DIGIT_BASE; rest > 0; rest /= DIGIT_BASE) {
                digits++;
            }
            return digits;
        }

        private void writeByte(int value) {
            if (length < row.length) {
                row[length] = (byte) value;
                length++;
            }
        }
    }

    /** Makes texts again, in two rows of its own: what it answers holds until the next one. */
    private static final class Maker {
        private Text base;
        private Text text;
        private byte[] piece;
        private int at;

        Maker() {
            base = new Text();
            text = new Text();
            piece = new byte[0];
            at = 0;
        }

        /** The text of a revision's base, or null if it can't be made again. */
        Text makeBase(Document d, int revision) {
            if (revision == 0) {
                text.shorten(0);
                return text;
            }
            return makeAgain(d, baseOf(revision));
        }

        /** The text of a revision, or null if it can't be made again. */
        Text makeAgain(Document d, int revision) {
            text.shorten(0);
            boolean made = makeNext(d, 0);
            int reached = 0;
            // A base has the highest bits of what is made from it, so the way up adds the lower.
            for (int bit = MOST_REVISIONS / 2; bit > 0 && made; bit /= 2) {
                if ((revision & bit) != 0) {
                    reached += bit;
                    made = makeNext(d, reached);
                }
            }
            return made ? text : null;
        }

        /** Makes a revision's text out of the text made last, which is that of its base. */
        private boolean makeNext(Document d, int revision) {
            Revision kept = d.keptAt(revision);
            if (kept == null) {
                return false;
            }
            Text spare = base;
            base = text;
            text = spare;
            text.shorten(0);
            piece = kept.piece;
            at = 0;
            boolean good = true;
            // Each command takes a byte or more, so there are no more of them than bytes.
            for (int n = 0; n < piece.length && at < piece.length && good; n++) {
                good = obeyCommand();
            }
            return good;
        }

        private boolean obeyCommand() {
            int head = readNumber();
            int n = head / 2;
            if (head < 0 || n == 0 || !text.hasRoom(n)) {
                return false;
            }
            return head % 2 == 0 ? insert(n) : copy(n);
        }

        private boolean insert(int n) {
            if (n > piece.length - at) {
                return false;
            }
            for (int i = 0; i < n; i++) {
                text.addByte(piece[at + i]);
            }
            at += n;
            return true;
        }

        private boolean copy(int n) {
            int place = readNumber();
            if (place < 0 || n > base.length - place) {
                return false;
            }
            for (int i = 0; i < n; i++) {
                text.addByte(base.byteAt(place + i));
            }
            return true;
        }

        /** The number at the place in the piece, or NONE if it is too long or cut off. */
        private int readNumber() {
            int number = 0;
            for (int digit = 0; digit < MOST_DIGITS; digit++) {
                if (at >= piece.length) {
                    return NONE;
                }
                int value = piece[at] & LOW_BYTE;
                at++;
                number += (value % DIGIT_BASE) << (DIGIT_BITS * digit);
                if (value < DIGIT_BASE) {
                    return number;
                }
            }
            return NONE;
        }
    }

    /** Whether there is power, and after how many writes it goes. */
    private static final class Power {
        private boolean down;
        private boolean going;
        private int writesLeft;

        Power() {
            down = false;
            going = false;
            writesLeft = 0;
        }

        void goAfter(int writes) {
            going = true;
            writesLeft = writes;
        }

        void comeBack() {
            down = false;
            going = false;
        }

        /** Takes the writes if there is power for all of them; goes down if not. */
        boolean lastsFor(int writes) {
            if (!going) {
                return true;
            }
            if (writesLeft < writes) {
                down = true;
                return false;
            }
            writesLeft -= writes;
            return true;
        }
    }
}
