/** What the document says of the edges of the sheet and of what is told of it: promises 1, 11 to 15 and 17. */
public final class SheetBoundariesTest {
    private static final int LOWEST = Integer.MIN_VALUE;
    private static final int HIGHEST = Integer.MAX_VALUE;
    private static final Answers A = new Answers();

    public static void main(String[] args) {
        widthTooSmall();
        widthTooLarge();
        heightTooSmall();
        heightTooLarge();
        bandTooSmall();
        bandTooLarge();
        bandChangesNothing();
        newSheetIsWhite();
        newObjectHasNothing();
        newClipIsAllOfTheSheet();
        smallestSheet();
        lastOf512Calls();
        ejectOfAnEmptySheet();
        ejectWhitensEveryLine();
        ejectGivesRowsTheirRoom();
        ejectLeavesTheSettings();
        ejectLeavesTheClip();
        ejectLeavesTheRoomOfShapes();
        ejectLetsDrawAgain();
        lineHasTheFirstDotHighest();
        lineAboveAndBelow();
        wordBeforeAndBehind();
        wordsThatWrapAround();
        lastWordEndsWithTheSheet();
        dotsAtTheCorners();
        dotsBesideTheSheet();
        countOfOneLine();
        countOfNoLines();
        countOfLinesThatThereAreNot();
        countOfAllBlack();
        countWhereMarksBeginAndEnd();
        topIsTheLineItself();
        topAboveTheSheet();
        topBehindTheSheet();
        topOfAnEmptySheet();
        topPassesOverWhitenedLines();
        topSeesOneDot();
        lookAtEach();
        lookAtNone();
        A.end();
    }

    private static void widthTooSmall() {
        A.part("W is width, but 1 .. 5100: too small");
        for (int width : new int[] {1, 0, -1, -5100, LOWEST}) {
            BandPainter x = new BandPainter(width, 3, 1);
            A.due("look(0) for " + width, 1, x.look(0));
            x.rule(-10, -10, 100, 100);
            A.due("black dots of a sheet of " + width, 3, x.count(0, 9));
            A.due("line(0, 0)", Answers.dots("1"), x.line(0, 0));
            A.dueText("black(1, 0)", "IndexOutOfBoundsException", Answers.black(x, 1, 0));
        }
        A.due("look(0) for 2", 2, new BandPainter(2, 3, 1).look(0));
    }

    private static void widthTooLarge() {
        A.part("W is width, but 1 .. 5100: too large");
        for (int width : new int[] {5100, 5101, 10000, HIGHEST}) {
            BandPainter x = new BandPainter(width, 1, 1);
            A.due("look(0) for " + width, 5100, x.look(0));
            x.rule(0, 0, 10000, 1);
            A.due("black dots of a sheet of " + width, 5100, x.count(0, 0));
            A.dueText("black(5099, 0)", "true", Answers.black(x, 5099, 0));
            A.dueText("black(5100, 0)", "IndexOutOfBoundsException", Answers.black(x, 5100, 0));
        }
        A.due("look(0) for 5099", 5099, new BandPainter(5099, 1, 1).look(0));
    }

    private static void heightTooSmall() {
        A.part("H is height, but 1 .. 5100: too small");
        for (int height : new int[] {1, 0, -1, -5100, LOWEST}) {
            BandPainter x = new BandPainter(3, height, 1);
            A.due("look(1) for " + height, 1, x.look(1));
            x.rule(-10, -10, 100, 100);
            A.due("black dots of a sheet of " + height, 3, x.count(-9, 9));
            A.dueText("black(0, 0)", "true", Answers.black(x, 0, 0));
            A.dueText("black(0, 1)", "IndexOutOfBoundsException", Answers.black(x, 0, 1));
        }
        A.due("look(1) for 2", 2, new BandPainter(3, 2, 1).look(1));
    }

    private static void heightTooLarge() {
        A.part("H is height, but 1 .. 5100: too large");
        for (int height : new int[] {5100, 5101, 10000, HIGHEST}) {
            BandPainter x = new BandPainter(1, height, 1);
            A.due("look(1) for " + height, 5100, x.look(1));
            x.rule(0, 0, 1, 10000);
            A.due("black dots of a sheet of " + height, 5100, x.count(0, HIGHEST));
            A.dueText("black(0, 5099)", "true", Answers.black(x, 0, 5099));
            A.dueText("black(0, 5100)", "IndexOutOfBoundsException", Answers.black(x, 0, 5100));
            A.due("top(5099)", 5099, x.top(5099));
            A.due("top(5100)", -1, x.top(5100));
        }
        A.due("look(1) for 5099", 5099, new BandPainter(1, 5099, 1).look(1));
    }

    private static void bandTooSmall() {
        A.part("BAND is band, but 1 .. H: too small");
        for (int band : new int[] {1, 0, -1, LOWEST}) {
            A.due("look(2) for " + band, 1, new BandPainter(9, 20, band).look(2));
        }
        A.due("look(2) for 2", 2, new BandPainter(9, 20, 2).look(2));
    }

    private static void bandTooLarge() {
        A.part("BAND is band, but 1 .. H: too large");
        for (int band : new int[] {20, 21, 5100, HIGHEST}) {
            A.due("look(2) for " + band, 20, new BandPainter(9, 20, band).look(2));
        }
        A.due("look(2) for 19", 19, new BandPainter(9, 20, 19).look(2));
        A.due("look(2), not as the width", 4, new BandPainter(9, 4, 8).look(2));
        A.due("look(2), H being 1 for 0", 1, new BandPainter(9, 0, 5).look(2));
        A.due("look(2), H being 1 for -7", 1, new BandPainter(9, -7, -3).look(2));
        A.due("look(2), H being 5100 for 6000", 5100, new BandPainter(9, 6000, 5900).look(2));
        A.due("look(2), H being 5100 for 6000", 5099, new BandPainter(9, 6000, 5099).look(2));
    }

    private static void bandChangesNothing() {
        A.part("BAND changes nothing of what is told");
        for (int band : new int[] {LOWEST, 1, 2, 7, 19, 20, 21, HIGHEST}) {
            BandPainter x = new BandPainter(20, 20, band);
            x.stamp(Answers.smallShape(x), 17, 6);
            x.rule(0, 19, 1, 1);
            A.dueLines(x, 5, "", "0000000000000000011", "00000000000000000001", "");
            A.due("top(0) with a band of " + band, 6, x.top(0));
            A.due("top(8)", 19, x.top(8));
            A.due("count(0, 19)", 4, x.count(0, 19));
        }
    }

    private static void newSheetIsWhite() {
        A.part("dots (x, y), all white at first");
        BandPainter x = new BandPainter(130, 40, 8);
        for (int y = 0; y < 40; y++) {
            for (int k = 0; k < 3; k++) {
                A.due("line(" + y + ", " + k + ")", 0L, x.line(y, k));
            }
            A.dueText("black(129, " + y + ")", "false", Answers.black(x, 129, y));
        }
        A.due("count(0, 39)", 0, x.count(0, 39));
    }

    private static void newObjectHasNothing() {
        A.part("the INK is 0, SOURCE and INK are not OPAQUE, the TURN is 0; no shapes");
        BandPainter x = new BandPainter(6, 4, 2);
        A.dueLooks(x, 6, 4, 2, 0, 0, 0, 0, 0, 0, 0, 0, 0);
        A.due("of(0, 0)", -1, x.of(0, 0));
        A.due("stamp(0, 0, 0)", false, x.stamp(0, 0, 0));
        A.due("draw(0, 0, 0, 0)", false, x.draw(0, 0, 0L, 0L));
        A.dueText("shape(1, 1)", "0", Answers.shape(x, 1, 1));
        x.rule(1, 1, 3, 2);
        A.dueLines(x, 0, "", "0111", "0111", "");
        x.row(1, 1, 1, 3, 0L);
        x.ink(1, 0);
        x.row(1, 2, 1, 3, -1L);
        A.dueLines(x, 0, "", "0111", "0111", "");
    }

    private static void newClipIsAllOfTheSheet() {
        A.part("the clip is all of the sheet");
        BandPainter x = new BandPainter(6, 4, 2);
        x.rule(0, 0, 1, 1);
        x.rule(5, 0, 1, 1);
        x.rule(0, 3, 1, 1);
        x.rule(5, 3, 1, 1);
        A.dueLines(x, 0, "100001", "", "", "100001");
    }

    private static void smallestSheet() {
        A.part("a sheet of one dot");
        BandPainter x = new BandPainter(1, 1, 1);
        A.dueText("black(0, 0)", "false", Answers.black(x, 0, 0));
        x.stamp(Answers.smallShape(x), -2, -1);
        A.dueText("black(0, 0)", "true", Answers.black(x, 0, 0));
        A.due("line(0, 0)", Answers.dots("1"), x.line(0, 0));
        A.due("count(0, 0)", 1, x.count(0, 0));
        A.due("top(0)", 0, x.top(0));
        x.mode(true, false);
        x.row(0, 0, 1, 1, 0L);
        A.due("top(0)", -1, x.top(0));
    }

    private static void lastOf512Calls() {
        A.part("an object is used for at most 512 calls: the last of them");
        BandPainter x = new BandPainter(600, 2, 1);
        for (int call = 1; call <= 510; call++) {
            x.rule(call - 1, 0, 1, 1);
        }
        A.due("look(3), the 511th", 510, x.look(3));
        A.due("count(0, 1), the 512th", 510, x.count(0, 1));
    }

    private static void ejectOfAnEmptySheet() {
        A.part("eject of a new object");
        BandPainter x = new BandPainter(6, 4, 2);
        x.eject();
        A.dueLooks(x, 6, 4, 2, 0, 0, 0, 0, 0, 0, 0, 0, 0);
        A.due("count(0, 3)", 0, x.count(0, 3));
        x.rule(0, 0, 2, 1);
        A.dueLines(x, 0, "11", "");
    }

    private static void ejectWhitensEveryLine() {
        A.part("the sheet is white, without marks");
        BandPainter x = new BandPainter(70, 40, 2);
        x.rule(-1, -1, 100, 100);
        A.due("count(0, 39)", 2800, x.count(0, 39));
        x.eject();
        for (int y = 0; y < 40; y++) {
            A.due("line(" + y + ", 0)", 0L, x.line(y, 0));
            A.due("line(" + y + ", 1)", 0L, x.line(y, 1));
            A.due("count(" + y + ", " + y + ")", 0, x.count(y, y));
        }
        A.due("look(3)", 0, x.look(3));
        x.rule(69, 39, 1, 1);
        A.due("count(0, 39)", 1, x.count(0, 39));
        A.due("look(3)", 1, x.look(3));
    }

    private static void ejectGivesRowsTheirRoom() {
        A.part("rows have all their room");
        BandPainter x = new BandPainter(70, 4, 2);
        x.row(0, 0, 1, 64, -1L);
        x.row(0, 1, 1, 9, -1L);
        A.due("look(4)", 10, x.look(4));
        x.eject();
        A.due("look(4)", 0, x.look(4));
        x.row(0, 0, 1, 1, -1L);
        A.due("look(4)", 1, x.look(4));
    }

    private static void ejectLeavesTheSettings() {
        A.part("shapes, inks, TURN and what is OPAQUE stay");
        BandPainter x = new BandPainter(70, 4, 2);
        Answers.smallShape(x);
        x.ink(2, 7);
        x.mode(true, false);
        x.turn(1);
        x.stamp(0, 3, 3);
        x.eject();
        A.dueLooks(x, 70, 4, 2, 0, 0, 1, 2, 2, 7, 1, 0, 1);
        A.due("of(0, 0)", 3, x.of(0, 0));
        A.due("of(0, 1)", 2, x.of(0, 1));
        A.due("of(0, 2)", 3, x.of(0, 2));
        x.ink(3, 6);
        x.mode(false, true);
        x.turn(3);
        x.eject();
        A.dueLooks(x, 70, 4, 2, 0, 0, 1, 2, 3, 6, 0, 1, 3);
    }

    private static void ejectLeavesTheClip() {
        A.part("clip stays");
        BandPainter x = new BandPainter(10, 4, 2);
        x.clip(2, 1, 3, 2);
        x.eject();
        x.rule(0, 0, 10, 4);
        A.dueLines(x, 0, "", "0011", "0011", "");
        x.clip(20, 20, 30, 30);
        x.eject();
        x.rule(0, 0, 10, 4);
        A.due("count(0, 3) with a clip beside the sheet", 0, x.count(0, 3));
    }

    private static void ejectLeavesTheRoomOfShapes() {
        A.part("shapes stay, and so does the room that they take");
        BandPainter x = new BandPainter(10, 4, 2);
        for (int i = 0; i < 32; i++) {
            x.shape(1, 128);
        }
        x.eject();
        A.due("look(5)", 32, x.look(5));
        A.due("look(6)", 4096, x.look(6));
        A.dueText("shape(1, 1)", "IllegalStateException", Answers.shape(x, 1, 1));
    }

    private static void ejectLetsDrawAgain() {
        A.part("shapes can be drawn again (they are not STAMPED any more)");
        BandPainter x = new BandPainter(10, 4, 2);
        x.shape(3, 2);
        x.shape(3, 2);
        for (int turn = 0; turn < 4; turn++) {
            x.turn(turn);
            x.stamp(0, 5, 2);
            x.stamp(1, 5, 2);
        }
        x.eject();
        for (int number = 0; number < 2; number++) {
            A.due("of(" + number + ", 3)", 0, x.of(number, 3));
            A.due("draw(" + number + ", 0, ..)", true, x.draw(number, 0, Answers.dots("111"), 0L));
            A.due("of(" + number + ", 2)", 3, x.of(number, 2));
        }
        String[][] due = {{"", "", "00000111", ""}, {"000001", "000001", "000001", ""}, {"", "", "000111", ""},
            {"", "", "000001", "000001"}};
        for (int turn = 0; turn < 4; turn++) {
            x.turn(turn);
            x.stamp(1, 5, 2);
            A.dueLines(x, 0, due[turn]);
            A.due("draw(1, 0, ..)", false, x.draw(1, 0, 0L, 0L));
            x.eject();
        }
    }

    private static void lineHasTheFirstDotHighest() {
        A.part("as the bits of a long, black 1, the first one highest");
        BandPainter x = new BandPainter(130, 1, 1);
        int[] dots = {0, 63, 64, 127, 128, 129};
        long[] words = {1L << 63, 1L, 1L << 63, 1L, 1L << 63, 1L << 62};
        for (int i = 0; i < dots.length; i++) {
            x.rule(dots[i], 0, 1, 1);
            for (int k = 0; k < 3; k++) {
                A.due("line(0, " + k + "), the dot being " + dots[i], k == dots[i] / 64 ? words[i] : 0L, x.line(0, k));
            }
            x.eject();
        }
    }

    private static void lineAboveAndBelow() {
        A.part("0 where there are none: lines");
        BandPainter x = new BandPainter(64, 3, 1);
        x.rule(-10, -10, 100, 100);
        A.due("line(0, 0)", -1L, x.line(0, 0));
        A.due("line(2, 0)", -1L, x.line(2, 0));
        for (int y : new int[] {-1, 3, 4, -3, 5100, LOWEST, HIGHEST}) {
            A.due("line(" + y + ", 0)", 0L, x.line(y, 0));
        }
    }

    private static void wordBeforeAndBehind() {
        A.part("0 where there are none: dots before the first and behind the last");
        BandPainter x = new BandPainter(128, 1, 1);
        x.rule(-1000, 0, 10000, 1);
        A.due("line(0, 0)", -1L, x.line(0, 0));
        A.due("line(0, 1)", -1L, x.line(0, 1));
        for (int k : new int[] {-1, -2, 2, 3, 79, 80, LOWEST, HIGHEST}) {
            A.due("line(0, " + k + ")", 0L, x.line(0, k));
        }
    }

    private static void wordsThatWrapAround() {
        A.part("0 where there are none: 64 * k beyond what an int holds");
        BandPainter x = new BandPainter(5100, 1, 1);
        x.rule(0, 0, 5100, 1);
        for (int k : new int[] {1 << 25, (1 << 25) + 1, 1 << 26, (1 << 26) + 1, (1 << 26) + 79, 1 << 27, 3 << 26,
            1 << 30, -(1 << 26), 1 - (1 << 26), -(1 << 25), LOWEST + 1, HIGHEST - 1}) {
            A.due("line(0, " + k + ")", 0L, x.line(0, k));
        }
    }

    private static void lastWordEndsWithTheSheet() {
        A.part("0 where there are none: the last word's dots behind the sheet");
        int[] widths = {1, 2, 63, 64, 65, 127, 128, 129, 5056, 5057, 5099, 5100};
        int[] ends = {1, 2, 63, 64, 1, 63, 64, 1, 64, 1, 43, 44};
        for (int i = 0; i < widths.length; i++) {
            BandPainter x = new BandPainter(widths[i], 1, 1);
            x.rule(0, 0, 10000, 1);
            int last = (widths[i] - 1) / 64;
            A.due("the last word of " + widths[i], ends[i] == 64 ? -1L : ~(-1L >>> ends[i]), x.line(0, last));
            A.due("the word behind it", 0L, x.line(0, last + 1));
        }
    }

    private static void dotsAtTheCorners() {
        A.part("whether a dot is black: the corners");
        BandPainter x = new BandPainter(65, 7, 1);
        int[][] corners = {{0, 0}, {64, 0}, {0, 6}, {64, 6}};
        for (int[] black : corners) {
            x.rule(black[0], black[1], 1, 1);
            for (int[] it : corners) {
                A.dueText("black(" + it[0] + ", " + it[1] + ")", Boolean.toString(it == black),
                        Answers.black(x, it[0], it[1]));
            }
            x.eject();
        }
    }

    private static void dotsBesideTheSheet() {
        A.part("IndexOutOfBoundsException if it is none of the sheet's");
        BandPainter x = new BandPainter(65, 7, 1);
        x.rule(-10000, -10000, 10000, 10000);
        x.rule(-100, -100, 1000, 1000);
        int[][] none = {{-1, 0}, {-1, 6}, {65, 0}, {65, 6}, {0, -1}, {64, -1}, {0, 7}, {64, 7}, {-1, -1}, {65, -1},
            {-1, 7}, {65, 7}, {127, 0}, {128, 3}, {6, 64}, {LOWEST, 3}, {HIGHEST, 3}, {3, LOWEST}, {3, HIGHEST},
            {LOWEST, LOWEST}, {HIGHEST, HIGHEST}, {LOWEST, HIGHEST}};
        for (int[] it : none) {
            A.dueText("black(" + it[0] + ", " + it[1] + ")", "IndexOutOfBoundsException",
                    Answers.black(x, it[0], it[1]));
        }
        A.due("count(0, 6) behind it", 455, x.count(0, 6));
    }

    /** Three lines of black dots: 3 in line 0, 70 in line 5, 1 in line 9, the last one. */
    private static BandPainter threeLines() {
        BandPainter x = new BandPainter(70, 10, 1);
        x.rule(0, 0, 3, 1);
        x.rule(0, 5, 70, 1);
        x.rule(69, 9, 1, 1);
        return x;
    }

    private static void countOfOneLine() {
        A.part("how many dots of the lines y0 .. y1 are black: y0 and y1 among them");
        BandPainter x = threeLines();
        int[][] due = {{0, 0, 3}, {5, 5, 70}, {9, 9, 1}, {4, 4, 0}, {0, 5, 73}, {5, 9, 71}, {1, 8, 70}, {1, 4, 0},
            {6, 8, 0}, {0, 9, 74}};
        for (int[] it : due) {
            A.due("count(" + it[0] + ", " + it[1] + ")", it[2], x.count(it[0], it[1]));
        }
    }

    private static void countOfNoLines() {
        A.part("how many dots of the lines y0 .. y1 are black: y0 above y1");
        BandPainter x = threeLines();
        int[][] none = {{1, 0}, {5, 4}, {9, 0}, {9, -1}, {10, 9}, {0, -1}, {HIGHEST, LOWEST}, {0, LOWEST},
            {HIGHEST, 0}};
        for (int[] it : none) {
            A.due("count(" + it[0] + ", " + it[1] + ")", 0, x.count(it[0], it[1]));
        }
    }

    private static void countOfLinesThatThereAreNot() {
        A.part("lines that there are not have none");
        BandPainter x = threeLines();
        int[][] due = {{-1, -1, 0}, {10, 10, 0}, {-5, -1, 0}, {10, 20, 0}, {-1, 0, 3}, {9, 10, 1}, {-100, 100, 74},
            {LOWEST, HIGHEST, 74}, {LOWEST, -1, 0}, {LOWEST, LOWEST, 0}, {LOWEST, 0, 3}, {10, HIGHEST, 0},
            {9, HIGHEST, 1}, {HIGHEST, HIGHEST, 0}};
        for (int[] it : due) {
            A.due("count(" + it[0] + ", " + it[1] + ")", it[2], x.count(it[0], it[1]));
        }
    }

    private static void countOfAllBlack() {
        A.part("how many dots are black: all that the largest sheet has");
        BandPainter x = new BandPainter(5100, 5100, 1);
        x.rule(0, 0, 5100, 5100);
        A.due("count(LOWEST, HIGHEST)", 26010000, x.count(LOWEST, HIGHEST));
        A.due("count(1, 5098)", 25999800, x.count(1, 5098));
    }

    private static void countWhereMarksBeginAndEnd() {
        A.part("how many dots of a line are black: the lines at which a mark over another one begins and ends");
        for (int begin = 0; begin < 50; begin++) {
            for (int end = begin; end < 50; end += 7) {
                BandPainter x = new BandPainter(40, 50, 1);
                x.rule(0, 0, 10, 50);
                x.rule(10, begin, 5, end - begin + 1);
                for (int y = 0; y < 50; y++) {
                    A.due("count(" + y + ", " + y + "), a mark from " + begin + " to " + end,
                            begin <= y && y <= end ? 15 : 10, x.count(y, y));
                }
                A.due("count(0, 49)", 500 + 5 * (end - begin + 1), x.count(0, 49));
            }
        }
        BandPainter x = new BandPainter(40, 50, 1);
        x.rule(0, 0, 10, 50);
        x.rule(10, 0, 5, 49);
        A.due("count(49, 49), a mark from 0 to 48", 10, x.count(49, 49));
    }

    private static void topIsTheLineItself() {
        A.part("the first line from y on that has a black dot: y among them");
        BandPainter x = threeLines();
        int[][] due = {{0, 0}, {1, 5}, {4, 5}, {5, 5}, {6, 9}, {8, 9}, {9, 9}};
        for (int[] it : due) {
            A.due("top(" + it[0] + ")", it[1], x.top(it[0]));
        }
    }

    private static void topAboveTheSheet() {
        A.part("the first line from y on: y above the sheet");
        for (int y : new int[] {-1, -2, -5100, LOWEST}) {
            A.due("top(" + y + ")", 0, threeLines().top(y));
        }
    }

    private static void topBehindTheSheet() {
        A.part("NONE if there is none: y behind the sheet");
        for (int y : new int[] {10, 11, 5100, HIGHEST}) {
            A.due("top(" + y + ")", BandPainter.NONE, threeLines().top(y));
        }
    }

    private static void topOfAnEmptySheet() {
        A.part("NONE if there is none: a white sheet");
        BandPainter x = new BandPainter(70, 10, 1);
        for (int y : new int[] {LOWEST, -1, 0, 9, 10, HIGHEST}) {
            A.due("top(" + y + ")", BandPainter.NONE, x.top(y));
        }
        x.rule(0, -5, 70, 5);
        x.rule(0, 10, 70, 5);
        x.rule(70, 0, 5, 10);
        x.rule(-5, 0, 5, 10);
        A.due("top(0) with marks all round the sheet", BandPainter.NONE, x.top(0));
    }

    private static void topPassesOverWhitenedLines() {
        A.part("NONE if there is none: lines that are white again");
        BandPainter x = threeLines();
        x.ink(1, 0);
        x.mode(false, true);
        x.rule(0, 0, 70, 6);
        A.due("top(0)", 9, x.top(0));
        x.rule(69, 9, 1, 1);
        A.due("top(0)", BandPainter.NONE, x.top(0));
    }

    private static void topSeesOneDot() {
        A.part("a line that has a black dot: one alone, at any place");
        for (int at : new int[] {0, 1, 62, 63, 64, 65, 127, 128, 4000, 5098, 5099}) {
            BandPainter x = new BandPainter(5100, 20, 1);
            x.rule(at, 17, 1, 1);
            A.due("top(0), the dot being " + at, 17, x.top(0));
            A.due("count(17, 17)", 1, x.count(17, 17));
        }
    }

    private static void lookAtEach() {
        A.part("look: what each of 0 .. 11 is");
        BandPainter x = new BandPainter(40, 30, 20);
        x.shape(5, 7);
        x.shape(5, 6);
        x.shape(5, 4);
        x.rule(0, 0, 1, 1);
        x.row(0, 0, 1, 40, 0L);
        x.ink(3, 2);
        x.mode(true, false);
        x.turn(1);
        A.dueLooks(x, 40, 30, 20, 2, 5, 3, 17, 3, 2, 1, 0, 1);
        x.mode(false, true);
        x.turn(0);
        A.dueLooks(x, 40, 30, 20, 2, 5, 3, 17, 3, 2, 0, 1, 0);
        for (int kind = 0; kind < 2; kind++) {
            x.ink(kind, 2);
            A.due("look(7)", kind, x.look(7));
            A.due("look(8), 0 for 0 and 1", 0, x.look(8));
        }
    }

    private static void lookAtNone() {
        A.part("NONE for any other which");
        BandPainter x = new BandPainter(40, 30, 20);
        for (int which : new int[] {-1, 12, 13, -12, 64, LOWEST, HIGHEST, LOWEST + 3}) {
            A.due("look(" + which + ")", BandPainter.NONE, x.look(which));
        }
        A.due("NONE", -1, BandPainter.NONE);
    }
}
