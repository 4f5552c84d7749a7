/** What the document says of the edges of shapes: promises 2, 3, 8 and 16, and their rooms. */
public final class ShapeBoundariesTest {
    private static final int LOWEST = Integer.MIN_VALUE;
    private static final int HIGHEST = Integer.MAX_VALUE;
    private static final Answers A = new Answers();

    public static void main(String[] args) {
        smallestAndLargest();
        acrossTooSmallOrTooLarge();
        downTooSmallOrTooLarge();
        whiteAtFirst();
        sixtyFourShapes();
        rowsThatAreFull();
        rowsThatWouldBeTooMany();
        firstExceptionListed();
        drawOfNoShape();
        drawOfNoRow();
        drawOfAStampedOne();
        drawBitsInOrder();
        drawPassesOverWhatThereIsNot();
        drawReplacesTheRow();
        stampOfNoShape();
        stampTooFar();
        stampAtTheFarthest();
        stampHasAllDots();
        stampOverEachEdge();
        stampByEachTurnOverEachEdge();
        stampWithoutADotOnTheSheet();
        stampThatIsRefusedIsNoStamp();
        stampTwice();
        stampOfOneDot();
        ofEach();
        ofNoShape();
        ofNoSuchNumber();
        ofStamped();
        A.end();
    }

    private static void smallestAndLargest() {
        A.part("SHAPES are 1 .. 128 across and 1 .. 128 down");
        BandPainter x = new BandPainter(5, 5, 1);
        int[][] sizes = {{1, 1}, {128, 1}, {1, 128}, {128, 128}, {64, 64}, {65, 63}};
        for (int i = 0; i < sizes.length; i++) {
            A.dueText("shape(" + sizes[i][0] + ", " + sizes[i][1] + ")", Integer.toString(i),
                    Answers.shape(x, sizes[i][0], sizes[i][1]));
            A.due("of(" + i + ", 0)", sizes[i][0], x.of(i, 0));
            A.due("of(" + i + ", 1)", sizes[i][1], x.of(i, 1));
        }
    }

    private static void acrossTooSmallOrTooLarge() {
        A.part("IllegalArgumentException if w is not 1 .. 128");
        BandPainter x = new BandPainter(5, 5, 1);
        for (int w : new int[] {0, -1, -128, 129, 256, LOWEST, HIGHEST}) {
            A.dueText("shape(" + w + ", 5)", "IllegalArgumentException", Answers.shape(x, w, 5));
        }
        A.due("look(5)", 0, x.look(5));
        A.due("look(6)", 0, x.look(6));
    }

    private static void downTooSmallOrTooLarge() {
        A.part("IllegalArgumentException if h is not 1 .. 128");
        BandPainter x = new BandPainter(5, 5, 1);
        for (int h : new int[] {0, -1, -128, 129, 256, LOWEST, HIGHEST}) {
            A.dueText("shape(5, " + h + ")", "IllegalArgumentException", Answers.shape(x, 5, h));
            A.dueText("shape(" + h + ", " + h + ")", "IllegalArgumentException", Answers.shape(x, h, h));
        }
        A.due("look(5)", 0, x.look(5));
        A.due("look(6)", 0, x.look(6));
    }

    private static void whiteAtFirst() {
        A.part("SHAPES are white at first");
        BandPainter x = new BandPainter(130, 130, 1);
        int number = x.shape(128, 128);
        A.due("of(0, 2)", 0, x.of(number, 2));
        x.stamp(number, 0, 0);
        A.due("count(0, 129)", 0, x.count(0, 129));
        x.rule(0, 0, 130, 130);
        x.mode(true, false);
        x.stamp(number, 1, 1);
        A.due("count(0, 129) of white ones that are OPAQUE", 130 * 130 - 128 * 128, x.count(0, 129));
    }

    private static void sixtyFourShapes() {
        A.part("IllegalStateException if there are 64");
        BandPainter x = new BandPainter(5, 5, 1);
        for (int i = 0; i < 64; i++) {
            A.dueText("shape(1, 64)", Integer.toString(i), Answers.shape(x, 1, 64));
        }
        A.dueText("shape(1, 1)", "IllegalStateException", Answers.shape(x, 1, 1));
        A.due("look(5)", 64, x.look(5));
        A.due("look(6)", 4096, x.look(6));
        A.due("draw(63, 63, ..)", true, x.draw(63, 63, -1L, -1L));
        A.due("of(63, 2)", 1, x.of(63, 2));
        A.due("of(64, 2)", -1, x.of(64, 2));
        A.due("stamp(63, 0, -63)", true, x.stamp(63, 0, -63));
        A.dueLines(x, 0, "1", "");

        BandPainter few = new BandPainter(5, 5, 1);
        for (int i = 0; i < 64; i++) {
            few.shape(1, 1);
        }
        A.dueText("shape(1, 1), 64 rows being there", "IllegalStateException", Answers.shape(few, 1, 1));
    }

    private static BandPainter withRows(int rows) {
        BandPainter x = new BandPainter(5, 5, 1);
        for (int left = rows; left > 0; left -= 128) {
            x.shape(1, Math.min(128, left));
        }
        A.due("look(6)", rows, x.look(6));
        return x;
    }

    private static void rowsThatAreFull() {
        A.part("4096 rows in all are not too many");
        int[][] both = {{3968, 128}, {3969, 127}, {4095, 1}, {4000, 96}};
        for (int[] it : both) {
            BandPainter x = withRows(it[0]);
            A.dueText("shape(1, " + it[1] + ")", Integer.toString(x.look(5)), Answers.shape(x, 1, it[1]));
            A.due("look(6)", 4096, x.look(6));
            A.dueText("shape(1, 1)", "IllegalStateException", Answers.shape(x, 1, 1));
        }
    }

    private static void rowsThatWouldBeTooMany() {
        A.part("IllegalStateException if there would be more than 4096 rows in all");
        int[][] both = {{3969, 128}, {4095, 2}, {4096, 1}, {4096, 128}, {4000, 97}};
        for (int[] it : both) {
            BandPainter x = withRows(it[0]);
            int shapes = x.look(5);
            A.dueText("shape(1, " + it[1] + ")", "IllegalStateException", Answers.shape(x, 1, it[1]));
            A.due("look(5)", shapes, x.look(5));
            A.due("look(6)", it[0], x.look(6));
        }
    }

    private static void firstExceptionListed() {
        A.part("of several exceptions the first one listed is thrown");
        BandPainter rows = withRows(4096);
        BandPainter shapes = new BandPainter(5, 5, 1);
        for (int i = 0; i < 64; i++) {
            shapes.shape(1, 1);
        }
        for (BandPainter x : new BandPainter[] {rows, shapes}) {
            int[][] wrong = {{0, 1}, {1, 0}, {129, 1}, {1, 129}, {LOWEST, LOWEST}, {HIGHEST, HIGHEST}};
            for (int[] it : wrong) {
                A.dueText("shape(" + it[0] + ", " + it[1] + ") without room", "IllegalArgumentException",
                        Answers.shape(x, it[0], it[1]));
            }
            A.dueText("shape(1, 1) without room", "IllegalStateException", Answers.shape(x, 1, 1));
        }
    }

    private static void drawOfNoShape() {
        A.part("draw: false if there is no such shape");
        BandPainter x = new BandPainter(5, 5, 1);
        A.due("draw(0, 0, ..) without shapes", false, x.draw(0, 0, -1L, -1L));
        x.shape(2, 2);
        for (int number : new int[] {-1, 1, 2, 63, 64, LOWEST, HIGHEST}) {
            A.due("draw(" + number + ", 0, ..)", false, x.draw(number, 0, -1L, -1L));
        }
        A.due("of(0, 2)", 0, x.of(0, 2));
        A.due("draw(0, 0, ..)", true, x.draw(0, 0, -1L, -1L));
    }

    private static void drawOfNoRow() {
        A.part("draw: false if there is no such row");
        BandPainter x = new BandPainter(5, 5, 1);
        for (int down : new int[] {1, 2, 63, 128}) {
            int number = x.shape(70, down);
            for (int j : new int[] {-1, down, down + 1, 129, LOWEST, HIGHEST}) {
                A.due("draw(" + number + ", " + j + ", ..)", false, x.draw(number, j, -1L, -1L));
            }
            A.due("of(.., 2)", 0, x.of(number, 2));
            A.due("draw of the last row", true, x.draw(number, down - 1, -1L, -1L));
            A.due("draw of the first row", true, x.draw(number, 0, -1L, -1L));
            A.due("of(.., 2)", down == 1 ? 70 : 140, x.of(number, 2));
        }
    }

    private static void drawOfAStampedOne() {
        A.part("draw: false if it was STAMPED already");
        BandPainter x = new BandPainter(20, 5, 1);
        Answers.smallShape(x);
        Answers.smallShape(x);
        x.stamp(0, 0, 0);
        A.due("draw(0, 0, ..)", false, x.draw(0, 0, 0L, 0L));
        A.due("draw(0, 1, ..)", false, x.draw(0, 1, -1L, -1L));
        A.due("draw(0, 2, ..)", false, x.draw(0, 2, -1L, -1L));
        A.due("of(0, 2)", 3, x.of(0, 2));
        A.dueLines(x, 0, "11", "001");
        A.due("draw(1, 0, ..), the other one", true, x.draw(1, 0, -1L, 0L));
        x.stamp(1, 10, 0);
        A.dueLines(x, 0, "1100000000111", "0010000000001");
    }

    private static void drawBitsInOrder() {
        A.part("its dots 0 .. 63 are the bits of left, the highest first, those from 64 on of right");
        int[] dots = {0, 1, 62, 63, 64, 65, 126, 127};
        for (int dot : dots) {
            BandPainter x = new BandPainter(128, 2, 1);
            int number = x.shape(128, 2);
            x.draw(number, 1, dot < 64 ? 1L << 63 - dot : 0L, dot < 64 ? 0L : 1L << 127 - dot);
            x.stamp(number, 0, 0);
            A.due("count(0, 0)", 0, x.count(0, 0));
            A.due("count(1, 1)", 1, x.count(1, 1));
            A.dueText("black(" + dot + ", 1)", "true", Answers.black(x, dot, 1));
        }
    }

    private static void drawPassesOverWhatThereIsNot() {
        A.part("those that it has not are passed over");
        BandPainter x = new BandPainter(200, 1, 1);
        for (int across : new int[] {1, 2, 63, 64, 65, 66, 127, 128}) {
            int number = x.shape(across, 1);
            x.draw(number, 0, -1L, -1L);
            A.due("of(.., 2) of " + across + " across", across, x.of(number, 2));
            x.stamp(number, 0, 0);
            A.due("count(0, 0)", across, x.count(0, 0));
            A.dueText("the last dot", "true", Answers.black(x, across - 1, 0));
            A.dueText("the dot behind it", "false", Answers.black(x, across, 0));
            x.eject();
            x.draw(number, 0, allBehind(across), allBehind(Math.max(0, across - 64)));
            A.due("of(.., 2) with none but those behind", 0, x.of(number, 2));
        }
    }

    /** All bits of a long but the n highest. */
    private static long allBehind(int n) {
        return n >= 64 ? 0L : -1L >>> n;
    }

    private static void drawReplacesTheRow() {
        A.part("row j of a shape: what was drawn before is gone");
        BandPainter x = new BandPainter(200, 3, 1);
        int number = x.shape(128, 3);
        for (int j = 0; j < 3; j++) {
            x.draw(number, j, -1L, -1L);
        }
        A.due("draw", true, x.draw(number, 1, 0L, 1L));
        A.due("of(.., 2)", 257, x.of(number, 2));
        A.due("draw", true, x.draw(number, 1, 0L, 0L));
        A.due("of(.., 2)", 256, x.of(number, 2));
        x.stamp(number, 0, 0);
        A.due("count(1, 1)", 0, x.count(1, 1));
        A.due("count(0, 2)", 256, x.count(0, 2));
    }

    private static void stampOfNoShape() {
        A.part("stamp: false if there is no such shape");
        BandPainter x = new BandPainter(5, 5, 1);
        A.due("stamp(0, 0, 0) without shapes", false, x.stamp(0, 0, 0));
        Answers.smallShape(x);
        for (int number : new int[] {-1, 1, 2, 63, 64, LOWEST, HIGHEST}) {
            A.due("stamp(" + number + ", 0, 0)", false, x.stamp(number, 0, 0));
        }
        A.due("look(3)", 0, x.look(3));
        A.due("count(0, 4)", 0, x.count(0, 4));
    }

    private static void stampTooFar() {
        A.part("stamp: false if x or y is not -10000 .. 10000");
        BandPainter x = new BandPainter(5, 5, 1);
        Answers.smallShape(x);
        for (int far : new int[] {-10001, 10001, -20000, 20000, LOWEST, HIGHEST}) {
            A.due("stamp(0, " + far + ", 0)", false, x.stamp(0, far, 0));
            A.due("stamp(0, 0, " + far + ")", false, x.stamp(0, 0, far));
            A.due("stamp(0, " + far + ", " + far + ")", false, x.stamp(0, far, far));
        }
        A.due("look(3)", 0, x.look(3));
    }

    private static void stampAtTheFarthest() {
        A.part("stamp: true at -10000 and at 10000");
        BandPainter x = new BandPainter(5, 5, 1);
        Answers.smallShape(x);
        for (int turn = 0; turn < 4; turn++) {
            x.turn(turn);
            for (int far : new int[] {-10000, 10000}) {
                A.due("stamp(0, " + far + ", 0)", true, x.stamp(0, far, 0));
                A.due("stamp(0, 0, " + far + ")", true, x.stamp(0, 0, far));
                A.due("stamp(0, " + far + ", " + far + ")", true, x.stamp(0, far, far));
            }
        }
        A.due("look(3)", 24, x.look(3));
        A.due("count(0, 4)", 0, x.count(0, 4));
    }

    private static void stampHasAllDots() {
        A.part("a STAMP has all dots of one");
        BandPainter x = new BandPainter(300, 200, 1);
        int number = x.shape(128, 128);
        for (int j = 0; j < 128; j++) {
            x.draw(number, j, -1L, -1L);
        }
        int[][] at = {{70, 30}, {70, 157}, {197, 157}, {197, 30}};
        for (int turn = 0; turn < 4; turn++) {
            x.turn(turn);
            x.stamp(number, at[turn][0], at[turn][1]);
            A.due("count(0, 199) by " + turn, 128 * 128, x.count(0, 199));
            A.due("top(0)", 30, x.top(0));
            A.due("top(158)", -1, x.top(158));
            A.due("line(157, 1)", -1L >>> 6, x.line(157, 1));
            A.due("line(30, 3)", -1L << 58, x.line(30, 3));
            x.eject();
        }
    }

    private static void stampOverEachEdge() {
        A.part("a stamp of which a part lies beside the sheet");
        BandPainter x = new BandPainter(4, 3, 1);
        Answers.smallShape(x);
        int[][] at = {{-1, 0}, {-2, 0}, {-3, 0}, {2, 0}, {3, 0}, {4, 0}, {0, -1}, {0, -2}, {0, 2}, {0, 3}};
        String[][] due = {{"1", "01", ""}, {"", "1", ""}, {"", "", ""}, {"0011", "", ""}, {"0001", "", ""},
            {"", "", ""}, {"001", "", ""}, {"", "", ""}, {"", "", "11"}, {"", "", ""}};
        for (int i = 0; i < at.length; i++) {
            A.due("stamp(0, " + at[i][0] + ", " + at[i][1] + ")", true, x.stamp(0, at[i][0], at[i][1]));
            A.dueLines(x, 0, due[i]);
            x.eject();
        }
    }

    private static void stampByEachTurnOverEachEdge() {
        A.part("by a turn the dot (i, j) comes to where the document says, the sheet's first dot being met last");
        // The last dot of the shape, (2, 1), lies at the sheet's first one, and all the others beside the sheet.
        int[][] at = {{-2, -1}, {-1, 2}, {2, 1}, {1, -2}};
        for (int turn = 0; turn < 4; turn++) {
            BandPainter x = new BandPainter(5, 5, 1);
            Answers.smallShape(x);
            x.turn(turn);
            x.stamp(0, at[turn][0], at[turn][1]);
            A.dueText("black(0, 0) by " + turn, "true", Answers.black(x, 0, 0));
        }
    }

    private static void stampWithoutADotOnTheSheet() {
        A.part("a stamp beside the sheet, or beside its clip, is a mark, and its shape STAMPED");
        BandPainter x = new BandPainter(5, 5, 1);
        Answers.smallShape(x);
        Answers.smallShape(x);
        A.due("stamp(0, 5, 5)", true, x.stamp(0, 5, 5));
        A.due("of(0, 3)", 1, x.of(0, 3));
        A.due("draw(0, 0, ..)", false, x.draw(0, 0, -1L, 0L));
        x.clip(4, 4, 4, 4);
        A.due("stamp(1, 0, 0)", true, x.stamp(1, 0, 0));
        A.due("of(1, 3)", 1, x.of(1, 3));
        A.due("draw(1, 0, ..)", false, x.draw(1, 0, -1L, 0L));
        A.due("look(3)", 2, x.look(3));
        A.due("count(0, 4)", 0, x.count(0, 4));
    }

    private static void stampThatIsRefusedIsNoStamp() {
        A.part("what answers false changes nothing: the shape is not STAMPED");
        BandPainter x = new BandPainter(5, 5, 1);
        Answers.smallShape(x);
        x.stamp(0, 10001, 0);
        x.stamp(0, 0, -10001);
        A.due("of(0, 3)", 0, x.of(0, 3));
        A.due("draw(0, 0, ..)", true, x.draw(0, 0, 0L, 0L));
        A.due("of(0, 2)", 1, x.of(0, 2));
    }

    private static void stampTwice() {
        A.part("a STAMPED shape can be stamped again, by other turns too");
        BandPainter x = new BandPainter(20, 4, 1);
        Answers.smallShape(x);
        A.due("stamp(0, 0, 0)", true, x.stamp(0, 0, 0));
        A.due("stamp(0, 5, 0)", true, x.stamp(0, 5, 0));
        x.turn(2);
        A.due("stamp(0, 12, 1)", true, x.stamp(0, 12, 1));
        A.due("look(3)", 3, x.look(3));
        A.dueLines(x, 0, "1100011000100000", "0010000100011000", "");
    }

    private static void stampOfOneDot() {
        A.part("a stamp of one dot lies at (x, y) by every turn");
        BandPainter x = new BandPainter(5, 5, 1);
        int number = x.shape(1, 1);
        x.draw(number, 0, -1L, -1L);
        for (int turn = 0; turn < 4; turn++) {
            x.turn(turn);
            x.stamp(number, 3, 2);
            A.dueLines(x, 0, "", "", "0001", "", "");
            x.eject();
        }
    }

    private static void ofEach() {
        A.part("of a shape: 0: dots across, 1: down, 2: black ones, 3: 1 if it was STAMPED");
        BandPainter x = new BandPainter(5, 5, 1);
        int number = x.shape(128, 3);
        A.due("of(0, 0)", 128, x.of(number, 0));
        A.due("of(0, 1)", 3, x.of(number, 1));
        A.due("of(0, 2)", 0, x.of(number, 2));
        A.due("of(0, 3)", 0, x.of(number, 3));
        x.draw(number, 2, 1L, 1L);
        A.due("of(0, 2)", 2, x.of(number, 2));
        int full = x.shape(128, 128);
        for (int j = 0; j < 128; j++) {
            x.draw(full, j, -1L, -1L);
        }
        A.due("of(1, 2) of all black", 16384, x.of(full, 2));
    }

    private static void ofNoShape() {
        A.part("of: NONE if there is none such");
        BandPainter x = new BandPainter(5, 5, 1);
        for (int w = 0; w < 4; w++) {
            A.due("of(0, " + w + ") without shapes", BandPainter.NONE, x.of(0, w));
        }
        x.shape(2, 2);
        for (int number : new int[] {-1, 1, 2, 63, 64, 65, LOWEST, HIGHEST}) {
            for (int w = 0; w < 4; w++) {
                A.due("of(" + number + ", " + w + ")", BandPainter.NONE, x.of(number, w));
            }
        }
    }

    private static void ofNoSuchNumber() {
        A.part("of: NONE if there is no such w");
        BandPainter x = new BandPainter(5, 5, 1);
        x.shape(2, 2);
        for (int w : new int[] {-1, 4, 5, LOWEST, HIGHEST}) {
            A.due("of(0, " + w + ")", BandPainter.NONE, x.of(0, w));
            A.due("of(1, " + w + ")", BandPainter.NONE, x.of(1, w));
        }
    }

    private static void ofStamped() {
        A.part("of: 1 if it was STAMPED, until the sheet is ejected");
        BandPainter x = new BandPainter(5, 5, 1);
        x.shape(2, 2);
        x.shape(2, 2);
        int[] due = {0, 1, 1, 0, 1};
        A.due("of(0, 3)", due[0], x.of(0, 3));
        x.stamp(0, 0, 0);
        A.due("of(0, 3)", due[1], x.of(0, 3));
        x.stamp(0, 0, 0);
        A.due("of(0, 3)", due[2], x.of(0, 3));
        x.eject();
        A.due("of(0, 3)", due[3], x.of(0, 3));
        x.stamp(0, 0, 0);
        A.due("of(0, 3)", due[4], x.of(0, 3));
        A.due("of(1, 3), of the other one", 0, x.of(1, 3));
    }
}
