/** The largest sheets, and objects that have been given all that they have room for. */
public final class RoomTest {
    private static final int[] EDGES = {Integer.MIN_VALUE, -10001, -10000, -1, 0, 1, 2, 3, 63, 64, 65, 127, 128, 129,
        5099, 5100, 10000, 10001, Integer.MAX_VALUE};
    private static final Answers A = new Answers();

    public static void main(String[] args) {
        largestSheet();
        largestTurned();
        fiveHundredMarks();
        allArgumentsEverywhere();
        tooManyCalls();
        A.end();
    }

    private static void largestSheet() {
        A.part("the largest sheet");
        BandPainter x = new BandPainter(5100, 5100, 64);
        x.rule(0, 0, 10000, 10000);
        A.due("count of all", 26010000, x.count(0, 5099));
        A.due("line(5099, 79)", -1L << 20, x.line(5099, 79));
        A.due("line(5099, 80)", 0L, x.line(5099, 80));
        x.mode(false, true);
        x.ink(2, 1);
        x.rule(0, 0, 10000, 10000);
        A.due("one of each 64", 638 * 638, x.count(0, 5099));
        A.due("top(5089)", 5096, x.top(5089));
        A.due("top(5097)", -1, x.top(5097));
        x.ink(3, 1);
        x.clip(0, 4000, 5099, 5099);
        x.rule(0, 0, 5100, 5100);
        A.due("count below 4000", 500 * 638, x.count(0, 3999));
        A.due("count from 4000 on", 138 * 5100, x.count(4000, 5099));
        A.due("count(5095, 5096)", 2 * 5100, x.count(5095, 5096));
        A.due("count(5097, 5099)", 0, x.count(5097, 5099));
    }

    private static void largestTurned() {
        A.part("the largest shape by each turn at the sheet's corners");
        int[][] at = {{5099 - 127, 5099 - 127}, {5099 - 127, 127}, {127, 127}, {127, 5099 - 127}};
        int[][] corner = {{5099, 5099}, {5099, 0}, {0, 0}, {0, 5099}};
        for (int k = 0; k < 4; k++) {
            BandPainter x = new BandPainter(5100, 5100, 1);
            int number = x.shape(128, 128);
            x.draw(number, 127, 0L, 1L);
            x.turn(k);
            x.stamp(number, at[k][0], at[k][1]);
            A.due("count by " + k, 1, x.count(0, 5099));
            A.dueText("black at the corner by " + k, "true", Answers.black(x, corner[k][0], corner[k][1]));
        }
    }

    /** Marks of which each is told again at once, up to the 512th call. */
    private static void fiveHundredMarks() {
        A.part("256 marks, each told");
        BandPainter x = new BandPainter(5100, 5100, 1);
        for (int i = 0; i < 256; i++) {
            x.rule(i * 19, i * 19, 10000, 10000);
            A.due("count " + i, 26010000, x.count(0, 5099));
        }
    }

    private static void allArgumentsEverywhere() {
        A.part("arguments from the edges");
        int thrown = 0;
        for (int a : EDGES) {
            for (int b : EDGES) {
                BandPainter x = new BandPainter(a, b, a);
                thrown += edgesOf(x, a, b);
            }
        }
        A.due("calls that threw what the document does not name", 0, thrown);
    }

    private static int edgesOf(BandPainter x, int a, int b) {
        try {
            Answers.shape(x, 128, 3);
            x.draw(0, 1, -1L, -1L);
            for (int turn = 0; turn < 4; turn++) {
                x.turn(turn);
                x.ink(turn, 3);
                x.clip(a, b, b, a);
                x.clip(b, a, a, b);
                x.stamp(turn, a, b);
                x.stamp(0, a, b);
                x.rule(a, b, a, b);
                x.rule(b, a, 10000, 10000);
                x.row(a, b, 8, 64, -1L);
                x.row(a, b, a, b, -1L);
                x.draw(a, b, -1L, 1L);
                x.line(a, b);
                x.count(a, b);
                x.top(a);
                x.of(a, b);
                x.look(a);
                x.mode(turn == 1, turn == 2);
            }
            String got = Answers.black(x, a, b);
            boolean isOnSheet = a >= 0 && a < x.look(0) && b >= 0 && b < x.look(1);
            return got.equals("IndexOutOfBoundsException") == !isOnSheet ? 0 : 1;
        } catch (RuntimeException e) {
            System.out.println("with " + a + " and " + b + ": " + e);
            return 1;
        }
    }

    /** What is answered after the 512th call is free, but no call may throw what the document does not name. */
    private static void tooManyCalls() {
        A.part("more calls than an object is made for");
        BandPainter x = new BandPainter(100, 100, 1);
        for (int i = 0; i < 5000; i++) {
            A.due("row " + i, i < 4096, x.row(i % 100, i % 90, 1, 64, i));
        }
        A.due("look(3)", 4096, x.look(3));
        A.due("look(4)", 4096 * 8, x.look(4));
        A.due("rule", false, x.rule(0, 0, 1, 1));
        int number = x.shape(2, 2);
        A.due("stamp", false, x.stamp(number, 0, 0));
        A.due("of(.., 3)", 0, x.of(number, 3));
        x.eject();
        A.due("stamp after eject", true, x.stamp(number, 0, 0));
    }
}
