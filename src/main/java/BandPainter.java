import java.util.Arrays;

/**
 * A painter for a sheet of dots that never has the whole sheet: it keeps the marks that were laid, newest first,
 * and works out 64 dots of a line at a time when they are asked for.
 */
public final class BandPainter {
    public static final int NONE = -1;

    private static final int MOST_DOTS = 5100;
    private static final int MOST_MARKS = 4096;
    private static final int MOST_ROW_BYTES = 65536;
    private static final int MOST_SHAPES = 64;
    private static final int MOST_SHAPE_ROWS = 4096;
    private static final int SHAPE_SIDE = 128;
    private static final int FARTHEST = 10000;
    private static final int LARGEST_SCALE = 8;
    private static final int TURNS = 4;

    /** After so many dots, across and down, every ink begins anew. */
    private static final int PERIOD = 16;
    /** So many dots of a line are told at once, as the bits of a long. */
    private static final int WORD = 64;
    private static final int UNKNOWN = -1;
    private static final long FIRST_DOT = 1L << 63;

    private final int width;
    private final int height;
    private final int band;
    private final Box sheet;
    private final Shape[] shapes;
    private final Pile pile;
    private int shapeCount;
    private int shapeRows;
    private int rowBytes;
    private Ink ink;
    private boolean sourceOpaque;
    private boolean inkOpaque;
    private int turn;
    private Box clip;

    public BandPainter(int width, int height, int band) {
        this.width = within(1, width, MOST_DOTS);
        this.height = within(1, height, MOST_DOTS);
        this.band = within(1, band, this.height);
        this.sheet = new Box(0, 0, this.width - 1, this.height - 1);
        this.shapes = new Shape[MOST_SHAPES];
        this.pile = new Pile(this.height);
        this.ink = new Ink(Ink.BLACK, 0);
        this.clip = this.sheet;
    }

    public int shape(int w, int h) throws IllegalArgumentException, IllegalStateException {
        if (!isWithin(1, w, SHAPE_SIDE) || !isWithin(1, h, SHAPE_SIDE)) {
            throw new IllegalArgumentException("a shape is 1 .. 128 across and 1 .. 128 down");
        }
        if (shapeCount >= MOST_SHAPES || shapeRows + h > MOST_SHAPE_ROWS) {
            throw new IllegalStateException("there is no room for the shape");
        }
        int number = shapeCount;
        shapes[number] = new Shape(w, h);
        shapeCount++;
        shapeRows += h;
        return number;
    }

    public boolean draw(int shape, int j, long left, long right) {
        Shape drawn = shapeOf(shape);
        if (drawn == null || drawn.stamped || !isWithin(0, j, drawn.upright.down - 1)) {
            return false;
        }
        drawn.redraw(j, left, right);
        return true;
    }

    public boolean ink(int kind, int value) {
        if (!Ink.exists(kind, value)) {
            return false;
        }
        ink = new Ink(kind, value);
        return true;
    }

    public void mode(boolean source, boolean ink) {
        sourceOpaque = source;
        inkOpaque = ink;
    }

    public boolean turn(int k) {
        if (!isWithin(0, k, TURNS - 1)) {
            return false;
        }
        turn = k;
        return true;
    }

    public boolean clip(int x0, int y0, int x1, int y1) {
        if (x0 > x1 || y0 > y1) {
            return false;
        }
        clip = new Box(x0, y0, x1, y1).common(sheet);
        return true;
    }

    public boolean stamp(int shape, int x, int y) {
        Shape stamped = shapeOf(shape);
        if (stamped == null || !canLayAt(x, y)) {
            return false;
        }
        stamped.stamped = true;
        lay(stamped.turnedBy(turn), x, y, stamped.upright.across, stamped.upright.down);
        return true;
    }

    public boolean rule(int x, int y, int w, int h) {
        if (!canLayAt(x, y) || !isWithin(1, w, FARTHEST) || !isWithin(1, h, FARTHEST)) {
            return false;
        }
        lay(null, x, y, w, h);
        return true;
    }

    public boolean row(int x, int y, int scale, int n, long bits) {
        if (!canLayAt(x, y) || !isWithin(1, scale, LARGEST_SCALE) || !isWithin(1, n, WORD)) {
            return false;
        }
        int bytes = (n + 7) / 8;
        if (rowBytes + bytes > MOST_ROW_BYTES) {
            return false;
        }
        rowBytes += bytes;
        Picture dots = new Picture(n, 1, 1);
        dots.setDots(0, bits, 0L);
        lay(dots.turnedBy(turn).enlarged(scale), x, y, n * scale, scale);
        return true;
    }

    public void eject() {
        pile.clear();
        rowBytes = 0;
        for (int number = 0; number < shapeCount; number++) {
            Shape shape = shapeOf(number);
            if (shape != null) {
                shape.stamped = false;
            }
        }
    }

    public long line(int y, int k) {
        if (!isWithin(0, y, height - 1) || !isWithin(0, k, (width - 1) / WORD)) {
            return 0L;
        }
        return pile.wordOf(y, k);
    }

    public boolean black(int x, int y) throws IndexOutOfBoundsException {
        if (!isWithin(0, x, width - 1) || !isWithin(0, y, height - 1)) {
            throw new IndexOutOfBoundsException("the sheet has no such dot");
        }
        return (pile.wordOf(y, x / WORD) & FIRST_DOT >>> x % WORD) != 0L;
    }

    public int count(int y0, int y1) {
        int last = Math.min(y1, height - 1);
        int sum = 0;
        for (int y = Math.max(y0, 0); y <= last; y++) {
            sum += pile.blacksOf(y);
        }
        return sum;
    }

    public int top(int y) {
        for (int at = Math.max(y, 0); at < height; at++) {
            if (pile.blacksOf(at) > 0) {
                return at;
            }
        }
        return NONE;
    }

    public int of(int shape, int w) {
        Shape asked = shapeOf(shape);
        if (asked == null) {
            return NONE;
        }
        switch (w) {
            case 0: return asked.upright.across;
            case 1: return asked.upright.down;
            case 2: return asked.upright.blacks();
            case 3: return oneIf(asked.stamped);
            default: return NONE;
        }
    }

    public int look(int which) {
        switch (which) {
            case 0: return width;
            case 1: return height;
            case 2: return band;
            case 3: return pile.size;
            case 4: return rowBytes;
            case 5: return shapeCount;
            case 6: return shapeRows;
            case 7: return ink.kind;
            case 8: return ink.value;
            case 9: return oneIf(sourceOpaque);
            case 10: return oneIf(inkOpaque);
            case 11: return turn;
            default: return NONE;
        }
    }

    private Shape shapeOf(int number) {
        return isWithin(0, number, shapeCount - 1) ? shapes[number] : null;
    }

    private boolean canLayAt(int x, int y) {
        return isWithin(-FARTHEST, x, FARTHEST) && isWithin(-FARTHEST, y, FARTHEST) && pile.size < MOST_MARKS;
    }

    /** The picture is turned already (null: all dots are black); across and down are the mark's before its turn. */
    private void lay(Picture picture, int x, int y, int across, int down) {
        boolean upended = turn == 1 || turn == 3;
        int reachAcross = (upended ? down : across) - 1;
        int reachDown = (upended ? across : down) - 1;
        int left = turn == 2 || turn == 3 ? x - reachAcross : x;
        int top = turn == 1 || turn == 2 ? y - reachDown : y;
        Box whole = new Box(left, top, left + reachAcross, top + reachDown);
        pile.add(new Mark(picture, left, top, whole.common(clip), ink, sourceOpaque, inkOpaque));
    }

    private static boolean isWithin(int low, int n, int high) {
        return low <= n && n <= high;
    }

    private static int within(int low, int n, int high) {
        return Math.max(low, Math.min(n, high));
    }

    private static int oneIf(boolean so) {
        return so ? 1 : 0;
    }

    /** A long's first n dots, the highest bits. */
    private static long firstDots(int n) {
        if (n <= 0) {
            return 0L;
        }
        return n >= WORD ? -1L : -1L << WORD - n;
    }

    /** A part of the plane with its edges; it is empty if the first edge lies behind the last one. */
    private static final class Box {
        final int x0;
        final int y0;
        final int x1;
        final int y1;

        Box(int x0, int y0, int x1, int y1) {
            this.x0 = x0;
            this.y0 = y0;
            this.x1 = x1;
            this.y1 = y1;
        }

        Box common(Box other) {
            return new Box(Math.max(x0, other.x0), Math.max(y0, other.y0),
                    Math.min(x1, other.x1), Math.min(y1, other.y1));
        }

        boolean isEmpty() {
            return x0 > x1 || y0 > y1;
        }

        boolean meetsLine(int y) {
            return y0 <= y && y <= y1;
        }

        /** Which of the dots 64 * k .. 64 * k + 63 of a line lie between the left and the right edge. */
        long dotsOfWord(int k) {
            int first = k * WORD;
            return firstDots(x1 + 1 - first) & ~firstDots(x0 - first);
        }
    }

    /** An ink with its dots at hand: 16 divides 64, so that one long serves every 64 dots of a line. */
    private static final class Ink {
        static final int BLACK = 0;
        static final int WHITE = 1;
        static final int SHADE = 2;
        static final int HATCH = 3;
        static final int DARKEST = 100;
        static final int HATCHES = 6;

        final int kind;
        final int value;
        final long[] lines;

        Ink(int kind, int value) {
            this.kind = kind;
            this.value = kind == BLACK || kind == WHITE ? 0 : value;
            this.lines = new long[PERIOD];
            for (int v = 0; v < PERIOD; v++) {
                lines[v] = dotsOfLine(kind, value, v);
            }
        }

        static boolean exists(int kind, int value) {
            switch (kind) {
                case BLACK: return true;
                case WHITE: return true;
                case SHADE: return isWithin(1, value, DARKEST);
                case HATCH: return isWithin(1, value, HATCHES);
                default: return false;
            }
        }

        /** The ink along line y, for each 64 dots of it. */
        long dotsAt(int y) {
            return lines[y & PERIOD - 1];
        }

        private static long dotsOfLine(int kind, int value, int v) {
            if (kind == BLACK) {
                return -1L;
            }
            if (kind == WHITE) {
                return 0L;
            }
            long dots = 0L;
            for (int u = 0; u < PERIOD; u++) {
                if (kind == SHADE ? isShaded(value, u, v) : isHatched(value, u, v)) {
                    dots |= FIRST_DOT >>> u;
                }
            }
            dots |= dots >>> PERIOD;
            return dots | dots >>> 2 * PERIOD;
        }

        private static boolean isShaded(int shade, int u, int v) {
            int sum = 0;
            for (int b = 0; b < 3; b++) {
                int across = u >> b & 1;
                int down = v >> b & 1;
                sum += (32 >> 2 * b) * (across ^ down) + (16 >> 2 * b) * down;
            }
            return sum < (64 * shade + 99) / 100;
        }

        private static boolean isHatched(int hatch, int u, int v) {
            boolean lying = v == 7 || v == 8;
            boolean standing = u == 7 || u == 8;
            boolean rising = (u + v) % PERIOD < 2;
            boolean falling = (u - v + PERIOD) % PERIOD < 2;
            switch (hatch) {
                case 1: return lying;
                case 2: return standing;
                case 3: return rising;
                case 4: return falling;
                case 5: return lying || standing;
                case 6: return rising || falling;
                default: return false;
            }
        }
    }

    /** Rows of dots, each of which stands for so many lines as it is tall. */
    private static final class Picture {
        final int across;
        final int down;
        final int tall;
        final int words;
        final long[] bits;

        Picture(int across, int down, int tall) {
            this.across = Math.max(1, across);
            this.down = Math.max(1, down);
            this.tall = Math.max(1, tall);
            this.words = (this.across + WORD - 1) / WORD;
            this.bits = new long[this.words * this.down];
        }

        void setDots(int j, long left, long right) {
            setWord(j, 0, left & firstDots(across));
            setWord(j, 1, right & firstDots(across - WORD));
        }

        int blacks() {
            int sum = 0;
            for (int at = 0; at < bits.length; at++) {
                sum += Long.bitCount(bits[at]);
            }
            return sum;
        }

        /** A line's 64 dots from a dot on, which may lie before the first one; white where there are none. */
        long dotsFrom(int line, int first) {
            int j = tall > 1 ? line / tall : line;
            int k = Math.floorDiv(first, WORD);
            int shift = Math.floorMod(first, WORD);
            long dots = wordAt(j, k) << shift;
            return shift == 0 ? dots : dots | wordAt(j, k + 1) >>> WORD - shift;
        }

        /** The picture as it lies by a turn; by 0 it is this one itself. */
        Picture turnedBy(int turn) {
            if (turn == 0) {
                return this;
            }
            Picture turned = turn == 2 ? new Picture(across, down, tall) : new Picture(down, across, tall);
            for (int j = 0; j < down; j++) {
                for (int i = 0; i < across; i++) {
                    if (isBlack(i, j)) {
                        turned.blackenTurned(turn, i, j);
                    }
                }
            }
            return turned;
        }

        Picture enlarged(int scale) {
            Picture large = new Picture(across * scale, down, scale);
            for (int j = 0; j < down; j++) {
                for (int i = 0; i < large.across; i++) {
                    if (isBlack(scale > 1 ? i / scale : i, j)) {
                        large.blacken(i, j);
                    }
                }
            }
            return large;
        }

        private void blackenTurned(int turn, int i, int j) {
            switch (turn) {
                case 1: blacken(j, down - 1 - i); break;
                case 2: blacken(across - 1 - i, down - 1 - j); break;
                default: blacken(across - 1 - j, i); break;
            }
        }

        private boolean isBlack(int i, int j) {
            return (wordAt(j, i / WORD) & FIRST_DOT >>> i % WORD) != 0L;
        }

        private void blacken(int i, int j) {
            setWord(j, i / WORD, wordAt(j, i / WORD) | FIRST_DOT >>> i % WORD);
        }

        private long wordAt(int j, int k) {
            return hasWord(j, k) ? bits[j * words + k] : 0L;
        }

        private void setWord(int j, int k, long dots) {
            if (hasWord(j, k)) {
                bits[j * words + k] = dots;
            }
        }

        private boolean hasWord(int j, int k) {
            return 0 <= j && j < down && 0 <= k && k < words;
        }
    }

    /** A shape with the pictures of its turns, which are made when they are first stamped. */
    private static final class Shape {
        final Picture upright;
        final Picture[] turned;
        boolean stamped;

        Shape(int across, int down) {
            this.upright = new Picture(across, down, 1);
            this.turned = new Picture[TURNS];
        }

        void redraw(int j, long left, long right) {
            upright.setDots(j, left, right);
            for (int turn = 0; turn < TURNS; turn++) {
                turned[turn] = null;
            }
        }

        /** Marks may share the picture: a shape is not drawn while a mark of it lies on the sheet. */
        Picture turnedBy(int turn) {
            if (!isWithin(0, turn, TURNS - 1)) {
                return upright;
            }
            if (turned[turn] == null) {
                turned[turn] = upright.turnedBy(turn);
            }
            return turned[turn];
        }
    }

    /** A mark as it was laid: its picture (null: all dots are black), the part of the sheet that it meets, its ink. */
    private static final class Mark {
        final Picture picture;
        final int left;
        final int top;
        final Box part;
        final Ink ink;
        final boolean sourceOpaque;
        final boolean inkOpaque;
        Mark below;
        Mark belowOnLine;

        Mark(Picture picture, int left, int top, Box part, Ink ink, boolean sourceOpaque, boolean inkOpaque) {
            this.picture = picture;
            this.left = left;
            this.top = top;
            this.part = part;
            this.ink = ink;
            this.sourceOpaque = sourceOpaque;
            this.inkOpaque = inkOpaque;
        }
    }

    /** The marks from the newest to the oldest, and of each line how many black dots it has, once that was asked. */
    private static final class Pile {
        final int lines;
        final int[] blacks;
        /** Lines that are met by other marks than the line above, or by a picture: they need not look like others. */
        final boolean[] stirred;
        int size;
        Mark newest;

        Pile(int lines) {
            this.lines = lines;
            this.blacks = new int[lines];
            this.stirred = new boolean[lines];
        }

        void clear() {
            size = 0;
            newest = null;
            Arrays.fill(blacks, 0);
            for (int y = 0; y < lines; y++) {
                stirred[y] = false;
            }
        }

        /** A mark that meets no dot of the sheet takes its room, but need not be kept. */
        void add(Mark mark) {
            size++;
            if (mark.part.isEmpty()) {
                return;
            }
            mark.below = newest;
            newest = mark;
            stir(mark);
        }

        private void stir(Mark mark) {
            int first = Math.max(0, mark.part.y0);
            int behind = Math.min(lines, mark.part.y1 + 1);
            for (int y = first; y < behind; y++) {
                blacks[y] = UNKNOWN;
                if (mark.picture != null || y == first) {
                    stirred[y] = true;
                }
            }
            if (isWithin(0, behind, lines - 1)) {
                stirred[behind] = true;
            }
        }

        long wordOf(int y, int k) {
            return wordUnder(newestOnLine(y), y, k);
        }

        /** How many black dots a line has: where only inks repeat from above, the line above tells it. */
        int blacksOf(int y) {
            if (!isWithin(0, y, lines - 1)) {
                return 0;
            }
            int alike = y;
            while (alike >= PERIOD && blacks[alike] == UNKNOWN && isLikeAbove(alike)) {
                alike -= PERIOD;
            }
            if (blacks[alike] == UNKNOWN) {
                blacks[alike] = countedBlacks(alike);
            }
            blacks[y] = blacks[alike];
            return blacks[y];
        }

        /** Whether a line has the dots of the one that lies a PERIOD above it. */
        private boolean isLikeAbove(int y) {
            if (!isWithin(PERIOD, y, lines - 1)) {
                return false;
            }
            for (int at = y; at > y - PERIOD; at--) {
                if (stirred[at]) {
                    return false;
                }
            }
            return true;
        }

        private int countedBlacks(int y) {
            Mark first = newestOnLine(y);
            int from = MOST_DOTS;
            int to = 0;
            for (Mark mark = first; mark != null; mark = mark.belowOnLine) {
                from = Math.min(from, mark.part.x0);
                to = Math.max(to, mark.part.x1);
            }
            int sum = 0;
            for (int k = from / WORD; k <= to / WORD; k++) {
                sum += Long.bitCount(wordUnder(first, y, k));
            }
            return sum;
        }

        /** Chains the marks that meet a line, so that its words need not look at all the others. */
        private Mark newestOnLine(int y) {
            Mark first = null;
            Mark last = null;
            for (Mark mark = newest; mark != null; mark = mark.below) {
                if (mark.part.meetsLine(y)) {
                    mark.belowOnLine = null;
                    if (last == null) {
                        first = mark;
                    } else {
                        last.belowOnLine = mark;
                    }
                    last = mark;
                }
            }
            return first;
        }

        /** Goes down the chain until every dot was settled by the newest mark that changes it. */
        private static long wordUnder(Mark first, int y, int k) {
            long open = -1L;
            long black = 0L;
            for (Mark mark = first; mark != null && open != 0L; mark = mark.belowOnLine) {
                long met = mark.part.dotsOfWord(k) & open;
                if (met != 0L) {
                    Picture picture = mark.picture;
                    long source = picture == null ? met : picture.dotsFrom(y - mark.top, k * WORD - mark.left) & met;
                    long inked = source & mark.ink.dotsAt(y);
                    black |= inked;
                    open &= ~inked;
                    open &= mark.inkOpaque ? ~source : -1L;
                    open &= mark.sourceOpaque ? ~(met & ~source) : -1L;
                }
            }
            return black;
        }
    }
}
