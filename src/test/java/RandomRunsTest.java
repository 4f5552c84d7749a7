/**
 * Runs of calls, drawn from a written seed, on the class and on the plain sheet side by side. At the end of a run the
 * whole sheet is told; that may go beyond the 512 calls for which an object is made, but this class bears it.
 */
public final class RandomRunsTest {
    private static final int[] ODD = {Integer.MIN_VALUE, Integer.MIN_VALUE + 1, -10001, -10000, -1, 0, 1, 2, 5099,
        5100, 9999, 10000, 10001, Integer.MAX_VALUE - 1, Integer.MAX_VALUE};
    private static final Answers ANSWERS = new Answers();
    private static long seed = 20261115L;

    private static int below(int n) {
        seed = seed * 6364136223846793005L + 1442695040888963407L;
        return (int) ((seed >>> 33) % n);
    }

    private static int from(int low, int high) {
        return low + below(high - low + 1);
    }

    /** Mostly a usual number, now and then one from the edges of what there is. */
    private static int mostly(int low, int high) {
        return below(25) == 0 ? ODD[below(ODD.length)] : from(low, high);
    }

    private static long bits() {
        long high = below(1 << 30);
        long dots = high << 34 ^ (long) below(1 << 30) << 17 ^ below(1 << 30);
        int kind = below(6);
        return kind == 0 ? -1L : kind == 1 ? 0L : dots;
    }

    public static void main(String[] args) {
        for (int run = 0; run < 600 && ANSWERS.allRight(); run++) {
            run(run, mostly(1, 200), Math.min(300, mostly(1, 90)), mostly(0, 100));
        }
        run(-1, 5100, 33, 7);
        run(-2, 70, 5100, 5101);
        ANSWERS.end();
    }

    private static void run(int run, int width, int height, int band) {
        int w = width > 5100 ? 1000 : width;
        ANSWERS.part("run " + run + " on " + w + " x " + height);
        BandPainter x = new BandPainter(w, height, band);
        PlainSheet p = new PlainSheet(w, height, band);
        int calls = from(20, 470);
        boolean manyEjects = below(4) == 0;
        for (int call = 0; call < calls && ANSWERS.allRight(); call++) {
            int kind = below(100);
            if (kind < 30) {
                settle(x, p);
            } else if (kind < 65) {
                lay(x, p);
            } else if (kind < (manyEjects ? 70 : 66)) {
                x.eject();
                p.eject();
            } else {
                ask(x, p);
            }
        }
        tellAll(x, p);
    }

    private static void settle(BandPainter x, PlainSheet p) {
        int a = mostly(1, 128);
        int b = mostly(1, 20);
        int shape = mostly(0, 8);
        long left = bits();
        long right = bits();
        switch (below(7)) {
            case 0:
                ANSWERS.dueText("shape(" + a + ", " + b + ")", p.shape(a, b), Answers.shape(x, a, b));
                break;
            case 1:
            case 2:
                ANSWERS.due("draw(" + shape + ", " + (b - 1) + ", ..)", p.draw(shape, b - 1, left, right),
                        x.draw(shape, b - 1, left, right));
                break;
            case 3:
                int kind = mostly(0, 3);
                int value = kind == 3 ? mostly(0, 7) : mostly(0, 101);
                ANSWERS.due("ink(" + kind + ", " + value + ")", p.ink(kind, value), x.ink(kind, value));
                break;
            case 4:
                boolean source = below(2) == 0;
                boolean ink = below(2) == 0;
                p.mode(source, ink);
                x.mode(source, ink);
                break;
            case 5:
                int k = mostly(0, 3);
                ANSWERS.due("turn(" + k + ")", p.turn(k), x.turn(k));
                break;
            default:
                clip(x, p);
                break;
        }
    }

    private static void clip(BandPainter x, PlainSheet p) {
        int x0 = mostly(-20, p.width / 2);
        int y0 = mostly(-20, p.height / 2);
        int x1 = mostly(x0 / 2, p.width + 20);
        int y1 = mostly(y0 / 2, p.height + 20);
        ANSWERS.due("clip(" + x0 + ", " + y0 + ", " + x1 + ", " + y1 + ")", p.clip(x0, y0, x1, y1),
                x.clip(x0, y0, x1, y1));
    }

    private static void lay(BandPainter x, PlainSheet p) {
        int atX = mostly(-40, p.width + 40);
        int atY = mostly(-40, p.height + 40);
        switch (below(3)) {
            case 0:
                int shape = mostly(0, 5);
                ANSWERS.due("stamp(" + shape + ", " + atX + ", " + atY + ")", p.stamp(shape, atX, atY),
                        x.stamp(shape, atX, atY));
                break;
            case 1:
                int w = below(60) == 0 ? mostly(1, 10000) : from(1, p.width);
                int h = below(3) == 0 ? from(1, 200) : from(1, p.height);
                ANSWERS.due("rule(" + atX + ", " + atY + ", " + w + ", " + h + ")", p.rule(atX, atY, w, h),
                        x.rule(atX, atY, w, h));
                break;
            default:
                int scale = mostly(1, 8);
                int n = mostly(1, 64);
                long bits = bits();
                ANSWERS.due("row(" + atX + ", " + atY + ", " + scale + ", " + n + ", " + bits + ")",
                        p.row(atX, atY, scale, n, bits), x.row(atX, atY, scale, n, bits));
                break;
        }
    }

    private static void ask(BandPainter x, PlainSheet p) {
        int y = mostly(-2, p.height + 1);
        int a = mostly(-2, p.width + 1);
        switch (below(6)) {
            case 0:
                int k = mostly(-1, p.width / 64 + 1);
                ANSWERS.due("line(" + y + ", " + k + ")", p.line(y, k), x.line(y, k));
                break;
            case 1:
                ANSWERS.dueText("black(" + a + ", " + y + ")", p.black(a, y), Answers.black(x, a, y));
                break;
            case 2:
                int y1 = mostly(-2, p.height + 1);
                ANSWERS.due("count(" + y + ", " + y1 + ")", p.count(y, y1), x.count(y, y1));
                break;
            case 3:
                ANSWERS.due("top(" + y + ")", p.top(y), x.top(y));
                break;
            case 4:
                int shape = mostly(-1, 9);
                int w = mostly(-1, 4);
                ANSWERS.due("of(" + shape + ", " + w + ")", p.of(shape, w), x.of(shape, w));
                break;
            default:
                int which = mostly(-1, 12);
                ANSWERS.due("look(" + which + ")", p.look(which), x.look(which));
                break;
        }
    }

    private static void tellAll(BandPainter x, PlainSheet p) {
        for (int y = -1; y <= p.height; y++) {
            for (int k = -1; k <= (p.width + 63) / 64; k++) {
                ANSWERS.due("at the end line(" + y + ", " + k + ")", p.line(y, k), x.line(y, k));
            }
            ANSWERS.due("at the end count(" + y + ", " + y + ")", p.count(y, y), x.count(y, y));
        }
        for (int which = -1; which <= 12; which++) {
            ANSWERS.due("at the end look(" + which + ")", p.look(which), x.look(which));
        }
    }
}
