/** What the document says of the edges of marks, inks, turns and clips: its terms, and promises 4 to 7, 9 and 10. */
public final class MarkBoundariesTest {
    private static final int LOWEST = Integer.MIN_VALUE;
    private static final int HIGHEST = Integer.MAX_VALUE;
    private static final Answers A = new Answers();

    public static void main(String[] args) {
        inkOfNoKind();
        shadeTooSmallOrTooLarge();
        hatchTooSmallOrTooLarge();
        valueNotAsked();
        lightestShade();
        darkestShade();
        examplesOfTheDocument();
        everyShade();
        shadeBeginsAnewAfterEight();
        everyHatch();
        hatchBeginsAnewAfterSixteen();
        inkLiesOnTheSheet();
        whiteOnesOfTheSource();
        blackOnesWhereTheInkIsBlack();
        blackOnesWhereTheInkIsWhite();
        modesOneByOne();
        turnTooSmallOrTooLarge();
        everyTurn();
        clipTheWrongWayRound();
        clipOfOneDot();
        clipHasItsEdges();
        clipLargerThanTheSheet();
        clipBesideTheSheet();
        clipTakesThePlaceOfTheLast();
        markAsItWasWhenLaid();
        marksOneBehindTheOther();
        ruleTooFar();
        ruleAtTheFarthest();
        ruleTooSmallOrTooLarge();
        ruleOfOneDot();
        ruleThatEndsAtTheEdge();
        rowTooFar();
        rowAtTheFarthest();
        rowScaleTooSmallOrTooLarge();
        rowOfTooFewOrTooMany();
        rowHasTheHighestBits();
        rowByEachScale();
        rowBytes();
        roomForMarks();
        roomForBytes();
        A.end();
    }

    private static void inkOfNoKind() {
        A.part("ink: false if there is no such one");
        BandPainter x = new BandPainter(16, 16, 1);
        for (int kind : new int[] {-1, 4, 5, LOWEST, HIGHEST}) {
            for (int value : new int[] {0, 1, 6, 50}) {
                A.due("ink(" + kind + ", " + value + ")", false, x.ink(kind, value));
            }
        }
        A.due("look(7)", 0, x.look(7));
        A.due("look(8)", 0, x.look(8));
    }

    private static void shadeTooSmallOrTooLarge() {
        A.part("a SHADE of s, 1 .. 100");
        BandPainter x = new BandPainter(16, 16, 1);
        for (int s : new int[] {1, 2, 99, 100}) {
            A.due("ink(2, " + s + ")", true, x.ink(2, s));
            A.due("look(7)", 2, x.look(7));
            A.due("look(8)", s, x.look(8));
        }
        for (int s : new int[] {0, -1, 101, 200, LOWEST, HIGHEST}) {
            A.due("ink(2, " + s + ")", false, x.ink(2, s));
            A.due("look(8)", 100, x.look(8));
        }
    }

    private static void hatchTooSmallOrTooLarge() {
        A.part("a HATCH of 1 .. 6");
        BandPainter x = new BandPainter(16, 16, 1);
        for (int h = 1; h <= 6; h++) {
            A.due("ink(3, " + h + ")", true, x.ink(3, h));
            A.due("look(7)", 3, x.look(7));
            A.due("look(8)", h, x.look(8));
        }
        for (int h : new int[] {0, -1, 7, 50, 100, LOWEST, HIGHEST}) {
            A.due("ink(3, " + h + ")", false, x.ink(3, h));
            A.due("look(8)", 6, x.look(8));
        }
    }

    private static void valueNotAsked() {
        A.part("for 0 and 1 value is not asked");
        BandPainter x = new BandPainter(16, 16, 1);
        for (int value : new int[] {0, 1, -1, 101, 7, LOWEST, HIGHEST}) {
            for (int kind = 0; kind < 2; kind++) {
                A.due("ink(" + kind + ", " + value + ")", true, x.ink(kind, value));
                A.due("look(7)", kind, x.look(7));
                A.due("look(8)", 0, x.look(8));
                x.mode(false, true);
                x.rule(0, 0, 16, 1);
                A.due("count(0, 0)", kind == 0 ? 16 : 0, x.count(0, 0));
            }
        }
    }

    private static BandPainter allOver(int kind, int value) {
        BandPainter x = new BandPainter(64, 32, 1);
        x.ink(kind, value);
        x.rule(0, 0, 64, 32);
        return x;
    }

    private static void lightestShade() {
        A.part("a SHADE of 1: (64 + 99) / 100 is 1, so that D must be 0");
        BandPainter x = allOver(2, 1);
        A.due("count(0, 31)", 32, x.count(0, 31));
        A.due("line(0, 0)", 0x8080808080808080L, x.line(0, 0));
        A.due("line(8, 0)", 0x8080808080808080L, x.line(8, 0));
        A.due("count(1, 7)", 0, x.count(1, 7));
    }

    private static void darkestShade() {
        A.part("a SHADE of 100: 64 of 64; of 99: (6336 + 99) / 100 is 64 too; of 98: 63, without D = 63");
        A.due("count of 100", 2048, allOver(2, 100).count(0, 31));
        A.due("count of 99", 2048, allOver(2, 99).count(0, 31));
        A.due("count of 98", 2016, allOver(2, 98).count(0, 31));
        // D(0, 7) = 32 + 8 + 2 + 16 + 4 + 1 = 63
        A.dueText("black(0, 7) of 98", "false", Answers.black(allOver(2, 98), 0, 7));
        A.dueText("black(8, 15) of 98", "false", Answers.black(allOver(2, 98), 8, 15));
        A.dueText("black(7, 0) of 98", "true", Answers.black(allOver(2, 98), 7, 0));
    }

    private static void examplesOfTheDocument() {
        A.part("D(1, 0) = 32, D(1, 1) = 16, D(0, 1) = 48, D(2, 0) = 8");
        int[][] examples = {{1, 0, 32}, {1, 1, 16}, {0, 1, 48}, {2, 0, 8}, {0, 0, 0}};
        for (int[] it : examples) {
            for (int s = 1; s <= 100; s++) {
                A.dueText("black(" + it[0] + ", " + it[1] + ") in a shade of " + s,
                        Boolean.toString(it[2] < (64 * s + 99) / 100),
                        Answers.black(allOver(2, s), it[0], it[1]));
            }
        }
    }

    /** D of the document, from its bits one by one. */
    private static int depth(int i, int j) {
        int i0 = i % 2;
        int i1 = i / 2 % 2;
        int i2 = i / 4 % 2;
        int j0 = j % 2;
        int j1 = j / 2 % 2;
        int j2 = j / 4 % 2;
        return (i0 != j0 ? 32 : 0) + 16 * j0 + (i1 != j1 ? 8 : 0) + 4 * j1 + (i2 != j2 ? 2 : 0) + j2;
    }

    private static void everyShade() {
        A.part("black at (x, y) if D(x % 8, y % 8) < (64 * s + 99) / 100");
        for (int s = 1; s <= 100; s++) {
            BandPainter x = allOver(2, s);
            for (int y = 0; y < 32; y++) {
                long due = 0L;
                for (int at = 0; at < 64; at++) {
                    due = due << 1 | (depth(at % 8, y % 8) < (64 * s + 99) / 100 ? 1 : 0);
                }
                A.due("shade " + s + ": line(" + y + ", 0)", due, x.line(y, 0));
            }
        }
    }

    private static void shadeBeginsAnewAfterEight() {
        A.part("x % 8 and y % 8 at the end of the largest sheet");
        BandPainter x = new BandPainter(5100, 5100, 1);
        x.ink(2, 1);
        x.rule(5090, 5090, 10, 10);
        A.due("count(5090, 5099)", 1, x.count(5090, 5099));
        A.dueText("black(5096, 5096)", "true", Answers.black(x, 5096, 5096));
    }

    private static boolean isHatched(int hatch, int u, int v) {
        boolean[] as = {v == 7 || v == 8, u == 7 || u == 8, (u + v) % 16 < 2, (u - v + 16) % 16 < 2};
        return hatch == 5 ? as[0] || as[1] : hatch == 6 ? as[2] || as[3] : as[hatch - 1];
    }

    private static void everyHatch() {
        A.part("a HATCH, u being x % 16 and v y % 16");
        for (int hatch = 1; hatch <= 6; hatch++) {
            BandPainter x = allOver(3, hatch);
            for (int y = 0; y < 32; y++) {
                long due = 0L;
                for (int at = 0; at < 64; at++) {
                    due = due << 1 | (isHatched(hatch, at % 16, y % 16) ? 1 : 0);
                }
                A.due("hatch " + hatch + ": line(" + y + ", 0)", due, x.line(y, 0));
            }
        }
    }

    private static void hatchBeginsAnewAfterSixteen() {
        A.part("(u + v) % 16 and (u - v, and 16) % 16 wrap around");
        BandPainter rising = allOver(3, 3);
        BandPainter falling = allOver(3, 4);
        // u + v is 15, 16, 17, 18 in line 15; u - v is -15, .. in line 15, and 1, 2 in the others.
        A.dueText("hatch 3: black(0, 15)", "false", Answers.black(rising, 0, 15));
        A.dueText("hatch 3: black(1, 15)", "true", Answers.black(rising, 1, 15));
        A.dueText("hatch 3: black(2, 15)", "true", Answers.black(rising, 2, 15));
        A.dueText("hatch 3: black(3, 15)", "false", Answers.black(rising, 3, 15));
        A.dueText("hatch 3: black(16, 0)", "true", Answers.black(rising, 16, 0));
        A.dueText("hatch 4: black(0, 15)", "true", Answers.black(falling, 0, 15));
        A.dueText("hatch 4: black(1, 15)", "false", Answers.black(falling, 1, 15));
        A.dueText("hatch 4: black(15, 15)", "true", Answers.black(falling, 15, 15));
        A.dueText("hatch 4: black(0, 14)", "false", Answers.black(falling, 0, 14));
        A.dueText("hatch 4: black(16, 15)", "true", Answers.black(falling, 16, 15));
    }

    private static void inkLiesOnTheSheet() {
        A.part("where the INK is black at (x, y): the sheet's dots count, not the mark's");
        int[][] at = {{0, 0}, {-5, -3}, {3, 9}, {7, 7}, {-100, -100}};
        for (int[] it : at) {
            for (int turn = 0; turn < 4; turn++) {
                BandPainter x = new BandPainter(64, 16, 1);
                x.ink(3, 2);
                x.turn(turn);
                x.rule(it[0], it[1], 1000, 1000);
                x.rule(it[0], it[1], 1, 1);
                for (int y = 0; y < 16; y++) {
                    A.due("dots where hatch 2 is white", 0L, x.line(y, 0) & ~0x0180018001800180L);
                }
            }
        }
        BandPainter x = new BandPainter(64, 16, 1);
        x.ink(2, 1);
        x.row(1, 0, 1, 16, -1L);
        A.due("line(0, 0) of a row at 1 in a shade of 1", Answers.dots("0000000010000000100"), x.line(0, 0));
    }

    /** A line of white and black dots, and a mark over it of one white and one black dot on each. */
    private static String over(boolean source, boolean opaque, int kind) {
        BandPainter x = new BandPainter(4, 1, 1);
        x.rule(2, 0, 2, 1);
        x.mode(source, opaque);
        x.ink(kind, 0);
        x.row(0, 0, 1, 4, Answers.dots("0101"));
        StringBuilder dots = new StringBuilder();
        for (int at = 0; at < 4; at++) {
            dots.append(x.black(at, 0) ? '1' : '0');
        }
        return dots.toString();
    }

    private static void whiteOnesOfTheSource() {
        A.part("a white one of the SOURCE: the dot becomes white if the SOURCE is OPAQUE, and stays otherwise");
        A.dueText("not OPAQUE", "0111", over(false, false, 0));
        A.dueText("SOURCE OPAQUE", "0101", over(true, false, 0));
        A.dueText("INK OPAQUE alone", "0111", over(false, true, 0));
        A.dueText("both OPAQUE", "0101", over(true, true, 0));
    }

    private static void blackOnesWhereTheInkIsBlack() {
        A.part("a black one where the INK is black: the dot becomes black");
        for (int mode = 0; mode < 4; mode++) {
            String dots = over(mode % 2 == 1, mode / 2 == 1, 0);
            A.dueText("on white, mode " + mode, "1", dots.substring(1, 2));
            A.dueText("on black, mode " + mode, "1", dots.substring(3));
        }
    }

    private static void blackOnesWhereTheInkIsWhite() {
        A.part("a black one where the INK is white: the dot becomes white if the INK is OPAQUE, and stays otherwise");
        A.dueText("not OPAQUE", "0011", over(false, false, 1));
        A.dueText("SOURCE OPAQUE alone", "0001", over(true, false, 1));
        A.dueText("INK OPAQUE", "0010", over(false, true, 1));
        A.dueText("both OPAQUE", "0000", over(true, true, 1));
    }

    private static void modesOneByOne() {
        A.part("mode: whether the SOURCE, and whether the INK are OPAQUE");
        BandPainter x = new BandPainter(4, 1, 1);
        for (int mode = 0; mode < 8; mode++) {
            x.mode(mode % 2 == 1, mode / 2 % 2 == 1);
            A.due("look(9)", mode % 2, x.look(9));
            A.due("look(10)", mode / 2 % 2, x.look(10));
        }
    }

    private static void turnTooSmallOrTooLarge() {
        A.part("turn: false if k is not 0 .. 3");
        BandPainter x = new BandPainter(9, 9, 1);
        for (int k = 3; k >= 0; k--) {
            A.due("turn(" + k + ")", true, x.turn(k));
            for (int wrong : new int[] {-1, 4, 5, -4, 8, LOWEST, HIGHEST}) {
                A.due("turn(" + wrong + ")", false, x.turn(wrong));
                A.due("look(11)", k, x.look(11));
            }
        }
    }

    private static void everyTurn() {
        A.part("by the TURN the dot (i, j) of a mark at (x, y) comes to (x + i, y + j), (x + j, y - i), ..");
        for (int turn = 0; turn < 4; turn++) {
            for (int i = 0; i < 70; i += 23) {
                for (int j = 0; j < 5; j++) {
                    BandPainter x = new BandPainter(200, 200, 1);
                    int number = x.shape(70, 5);
                    x.draw(number, j, i < 64 ? 1L << 63 - i : 0L, i < 64 ? 0L : 1L << 127 - i);
                    x.turn(turn);
                    x.stamp(number, 100, 90);
                    int[][] due = {{100 + i, 90 + j}, {100 + j, 90 - i}, {100 - i, 90 - j}, {100 - j, 90 + i}};
                    A.due("count(0, 199)", 1, x.count(0, 199));
                    A.dueText("dot (" + i + ", " + j + ") by " + turn, "true",
                            Answers.black(x, due[turn][0], due[turn][1]));
                }
            }
        }
    }

    private static void clipTheWrongWayRound() {
        A.part("clip: false if x0 is above x1 or y0 above y1");
        BandPainter x = new BandPainter(6, 4, 1);
        int[][] wrong = {{1, 0, 0, 3}, {0, 1, 5, 0}, {5, 3, 0, 0}, {0, 0, -1, 0}, {0, 0, 0, -1},
            {HIGHEST, 0, LOWEST, 3}, {0, HIGHEST, 5, LOWEST}, {HIGHEST, 0, HIGHEST - 1, 3}, {0, LOWEST + 1, 5, LOWEST}};
        for (int[] it : wrong) {
            A.due("clip(" + it[0] + ", " + it[1] + ", " + it[2] + ", " + it[3] + ")", false,
                    x.clip(it[0], it[1], it[2], it[3]));
        }
        x.rule(0, 0, 6, 4);
        A.due("count(0, 3) with the clip of a new object", 24, x.count(0, 3));
    }

    private static void clipOfOneDot() {
        A.part("clip: x0 and x1, y0 and y1 may be the same");
        int[][] dots = {{0, 0}, {5, 0}, {0, 3}, {5, 3}, {2, 1}};
        for (int[] it : dots) {
            BandPainter x = new BandPainter(6, 4, 1);
            A.due("clip of one dot", true, x.clip(it[0], it[1], it[0], it[1]));
            x.rule(-10, -10, 100, 100);
            A.due("count(0, 3)", 1, x.count(0, 3));
            A.dueText("black(" + it[0] + ", " + it[1] + ")", "true", Answers.black(x, it[0], it[1]));
        }
        BandPainter x = new BandPainter(6, 4, 1);
        A.due("clip of a line", true, x.clip(0, 2, 5, 2));
        x.rule(0, 0, 6, 4);
        A.dueLines(x, 0, "", "", "111111", "");
    }

    private static void clipHasItsEdges() {
        A.part("the clip: dots with x from x0 to x1 and y from y0 to y1, for each kind of mark and each turn");
        String[] due = {"", "0011100", "0011100", ""};
        for (int turn = 0; turn < 4; turn++) {
            BandPainter x = new BandPainter(7, 4, 1);
            int number = x.shape(20, 20);
            for (int j = 0; j < 20; j++) {
                x.draw(number, j, -1L, -1L);
            }
            x.clip(2, 1, 4, 2);
            x.turn(turn);
            int atX = turn < 2 ? -5 : 12;
            int atY = turn == 0 || turn == 3 ? -5 : 12;
            x.stamp(number, atX, atY);
            A.dueLines(x, 0, due);
            x.eject();
            x.rule(atX, atY, 20, 20);
            A.dueLines(x, 0, due);
            x.eject();
            x.row(turn < 2 ? 0 : 6, turn == 0 || turn == 3 ? 0 : 3, 7, 7, -1L);
            A.dueLines(x, 0, due);
        }
    }

    private static void clipLargerThanTheSheet() {
        A.part("the CLIP, a part of the sheet: what lies beyond it counts for nothing");
        int[][] clips = {{LOWEST, LOWEST, HIGHEST, HIGHEST}, {-1, -1, 6, 4}, {-10000, -10000, 10000, 10000},
            {0, 0, 5, 3}, {0, 0, HIGHEST, HIGHEST}, {LOWEST, LOWEST, 5, 3}};
        for (int[] it : clips) {
            BandPainter x = new BandPainter(6, 4, 1);
            A.due("clip", true, x.clip(it[0], it[1], it[2], it[3]));
            x.rule(-10, -10, 100, 100);
            A.due("count(0, 3)", 24, x.count(0, 3));
            A.due("line(0, 0)", Answers.dots("111111"), x.line(0, 0));
        }
    }

    private static void clipBesideTheSheet() {
        A.part("a clip without a dot of the sheet: true, and marks change nothing");
        int[][] clips = {{6, 0, 9, 3}, {-9, 0, -1, 3}, {0, 4, 5, 9}, {0, -9, 5, -1}, {HIGHEST, 0, HIGHEST, 3},
            {LOWEST, LOWEST, LOWEST, LOWEST}, {64, 0, 70, 3}};
        for (int[] it : clips) {
            BandPainter x = new BandPainter(6, 4, 1);
            A.due("clip(" + it[0] + ", ..)", true, x.clip(it[0], it[1], it[2], it[3]));
            A.due("rule", true, x.rule(-10, -10, 100, 100));
            A.due("row", true, x.row(0, 0, 8, 64, -1L));
            A.due("count(0, 3)", 0, x.count(0, 3));
            A.due("look(3)", 2, x.look(3));
            A.due("look(4)", 8, x.look(4));
        }
    }

    private static void clipTakesThePlaceOfTheLast() {
        A.part("the clip: the new one alone, not what it has in common with the last one");
        BandPainter x = new BandPainter(6, 4, 1);
        x.clip(1, 1, 1, 1);
        x.clip(4, 2, 5, 3);
        x.rule(0, 0, 6, 4);
        A.dueLines(x, 0, "", "", "000011", "000011");
        x.clip(0, 0, 5, 3);
        x.rule(0, 0, 6, 4);
        A.due("count(0, 3)", 24, x.count(0, 3));
    }

    private static void markAsItWasWhenLaid() {
        A.part("a mark stays as it was when it was laid");
        BandPainter x = new BandPainter(8, 3, 1);
        x.rule(0, 0, 8, 3);
        x.mode(true, true);
        x.clip(0, 0, 5, 2);
        x.turn(1);
        x.row(2, 2, 1, 3, Answers.dots("010"));
        x.ink(1, 0);
        x.rule(4, 1, 1, 2);
        String[] due = {"11011111", "11110011", "11011111"};
        A.dueLines(x, 0, due);
        x.ink(0, 0);
        A.dueLines(x, 0, due);
        x.mode(false, false);
        A.dueLines(x, 0, due);
        x.turn(0);
        A.dueLines(x, 0, due);
        x.clip(7, 2, 7, 2);
        A.dueLines(x, 0, due);
        A.due("count(0, 2)", 20, x.count(0, 2));
    }

    private static void marksOneBehindTheOther() {
        A.part("MARKS are laid one behind the other: the last one lies above");
        BandPainter x = new BandPainter(8, 1, 1);
        x.mode(true, true);
        for (int i = 0; i < 20; i++) {
            x.ink(i % 2, 0);
            x.rule(0, 0, 8, 1);
            A.due("count(0, 0) behind mark " + i, i % 2 == 0 ? 8 : 0, x.count(0, 0));
        }
        A.due("look(3)", 20, x.look(3));
    }

    private static void ruleTooFar() {
        A.part("rule: false if x or y is not -10000 .. 10000");
        BandPainter x = new BandPainter(6, 4, 1);
        for (int far : new int[] {-10001, 10001, -20000, 20000, LOWEST, HIGHEST}) {
            A.due("rule(" + far + ", 0, 10000, 10000)", false, x.rule(far, 0, 10000, 10000));
            A.due("rule(0, " + far + ", 10000, 10000)", false, x.rule(0, far, 10000, 10000));
        }
        A.due("look(3)", 0, x.look(3));
        A.due("count(0, 3)", 0, x.count(0, 3));
    }

    private static void ruleAtTheFarthest() {
        A.part("rule: true at -10000 and at 10000");
        BandPainter x = new BandPainter(6, 4, 1);
        for (int turn = 0; turn < 4; turn++) {
            x.turn(turn);
            for (int far : new int[] {-10000, 10000}) {
                A.due("rule(" + far + ", " + far + ", 1, 1)", true, x.rule(far, far, 1, 1));
            }
        }
        A.due("count(0, 3)", 0, x.count(0, 3));
        A.due("look(3)", 8, x.look(3));
        // Of 10000 dots from 10000 to the left or upwards the last one lies at 1, and from -10000 on at -1.
        x.eject();
        x.turn(2);
        x.rule(10000, 10000, 10000, 10000);
        A.dueLines(x, 0, "", "011111", "011111", "011111");
        x.eject();
        x.turn(0);
        x.rule(-10000, -10000, 10000, 10000);
        A.due("count(0, 3)", 0, x.count(0, 3));
    }

    private static void ruleTooSmallOrTooLarge() {
        A.part("rule: false if w or h is not 1 .. 10000");
        BandPainter x = new BandPainter(6, 4, 1);
        for (int size : new int[] {0, -1, 10001, LOWEST, HIGHEST}) {
            A.due("rule(0, 0, " + size + ", 1)", false, x.rule(0, 0, size, 1));
            A.due("rule(0, 0, 1, " + size + ")", false, x.rule(0, 0, 1, size));
            A.due("rule(0, 0, " + size + ", " + size + ")", false, x.rule(0, 0, size, size));
        }
        A.due("look(3)", 0, x.look(3));
        A.due("count(0, 3)", 0, x.count(0, 3));
        A.due("rule(0, 0, 10000, 1)", true, x.rule(0, 0, 10000, 1));
        A.due("rule(0, 0, 1, 10000)", true, x.rule(0, 0, 1, 10000));
        A.dueLines(x, 0, "111111", "1", "1", "1");
    }

    private static void ruleOfOneDot() {
        A.part("a RULE has w across and h down, all black ones: 1 and 1");
        for (int turn = 0; turn < 4; turn++) {
            BandPainter x = new BandPainter(6, 4, 1);
            x.turn(turn);
            A.due("rule(5, 3, 1, 1)", true, x.rule(5, 3, 1, 1));
            A.dueLines(x, 0, "", "", "", "000001");
        }
    }

    private static void ruleThatEndsAtTheEdge() {
        A.part("a RULE whose last dot is the sheet's first one, or whose first dot is the last one");
        BandPainter x = new BandPainter(130, 4, 1);
        x.rule(-9999, 0, 10000, 1);
        A.due("line(0, 0)", Answers.dots("1"), x.line(0, 0));
        x.rule(-9999, 1, 9999, 1);
        A.due("line(1, 0)", 0L, x.line(1, 0));
        x.rule(129, 2, 10000, 1);
        A.due("line(2, 2)", Answers.dots("01"), x.line(2, 2));
        x.rule(130, 3, 10000, 1);
        A.due("count(3, 3)", 0, x.count(3, 3));
        A.due("count(0, 3)", 2, x.count(0, 3));
    }

    private static void rowTooFar() {
        A.part("row: false if x or y is not -10000 .. 10000");
        BandPainter x = new BandPainter(6, 4, 1);
        for (int far : new int[] {-10001, 10001, -20000, 20000, LOWEST, HIGHEST}) {
            A.due("row(" + far + ", 0, 1, 1, -1)", false, x.row(far, 0, 1, 1, -1L));
            A.due("row(0, " + far + ", 1, 1, -1)", false, x.row(0, far, 1, 1, -1L));
        }
        A.due("look(3)", 0, x.look(3));
        A.due("look(4)", 0, x.look(4));
    }

    private static void rowAtTheFarthest() {
        A.part("row: true at -10000 and at 10000");
        BandPainter x = new BandPainter(6, 4, 1);
        for (int turn = 0; turn < 4; turn++) {
            x.turn(turn);
            for (int far : new int[] {-10000, 10000}) {
                A.due("row(" + far + ", 0, 8, 64, -1)", true, x.row(far, 0, 8, 64, -1L));
                A.due("row(0, " + far + ", 8, 64, -1)", true, x.row(0, far, 8, 64, -1L));
            }
        }
        A.due("look(3)", 16, x.look(3));
        A.due("look(4)", 128, x.look(4));
        A.due("count(0, 3)", 0, x.count(0, 3));
    }

    private static void rowScaleTooSmallOrTooLarge() {
        A.part("row: false if scale is not 1 .. 8");
        BandPainter x = new BandPainter(6, 4, 1);
        for (int scale : new int[] {0, -1, 9, 64, LOWEST, HIGHEST}) {
            A.due("row(0, 0, " + scale + ", 1, -1)", false, x.row(0, 0, scale, 1, -1L));
        }
        A.due("look(3)", 0, x.look(3));
        A.due("look(4)", 0, x.look(4));
        A.due("count(0, 3)", 0, x.count(0, 3));
    }

    private static void rowOfTooFewOrTooMany() {
        A.part("row: false if n is not 1 .. 64");
        BandPainter x = new BandPainter(6, 4, 1);
        for (int n : new int[] {0, -1, -7, -8, 65, 128, LOWEST, HIGHEST}) {
            A.due("row(0, 0, 1, " + n + ", -1)", false, x.row(0, 0, 1, n, -1L));
        }
        A.due("look(3)", 0, x.look(3));
        A.due("look(4)", 0, x.look(4));
        A.due("count(0, 3)", 0, x.count(0, 3));
    }

    private static void rowHasTheHighestBits() {
        A.part("row: its dots are the n highest bits of bits");
        for (int n = 1; n <= 64; n++) {
            BandPainter x = new BandPainter(70, 1, 1);
            A.due("row of " + n, true, x.row(0, 0, 1, n, -1L));
            A.due("count(0, 0) of " + n, n, x.count(0, 0));
            A.dueText("the last dot", "true", Answers.black(x, n - 1, 0));
            x.eject();
            x.row(0, 0, 1, n, n == 64 ? 0L : -1L >>> n);
            A.due("count(0, 0), none but the bits behind", 0, x.count(0, 0));
            x.eject();
            x.rule(0, 0, 70, 1);
            x.mode(true, false);
            x.row(0, 0, 1, n, 0L);
            A.due("count(0, 0), " + n + " white ones that are OPAQUE", 70 - n, x.count(0, 0));
        }
    }

    private static void rowByEachScale() {
        A.part("a ROW has n dots, each made larger to SCALE across and SCALE down");
        for (int scale = 1; scale <= 8; scale++) {
            for (int turn = 0; turn < 4; turn++) {
                BandPainter x = new BandPainter(1100, 1100, 1);
                x.turn(turn);
                x.row(550, 550, scale, 64, 1L);
                // The one black dot is the last one: i from 63 * scale to 64 * scale - 1.
                int near = 63 * scale;
                int far = 64 * scale - 1;
                int[][] corners = {{near, 0}, {far, 0}, {near, scale - 1}, {far, scale - 1}};
                A.due("count of scale " + scale, scale * scale, x.count(0, 1099));
                for (int[] it : corners) {
                    int[][] due = {{it[0], it[1]}, {it[1], -it[0]}, {-it[0], -it[1]}, {-it[1], it[0]}};
                    A.dueText("corner of scale " + scale + " by " + turn, "true",
                            Answers.black(x, 550 + due[turn][0], 550 + due[turn][1]));
                }
            }
        }
    }

    private static void rowBytes() {
        A.part("(n + 7) / 8 for each ROW, however it is scaled");
        int[] sizes = {1, 7, 8, 9, 15, 16, 17, 56, 57, 63, 64};
        int[] bytes = {1, 1, 1, 2, 2, 2, 3, 7, 8, 8, 8};
        for (int scale = 1; scale <= 8; scale++) {
            for (int i = 0; i < sizes.length; i++) {
                BandPainter x = new BandPainter(6, 4, 1);
                x.turn(scale % 4);
                x.row(0, 0, scale, sizes[i], 0L);
                A.due("look(4) for " + sizes[i] + " of scale " + scale, bytes[i], x.look(4));
                x.row(0, 0, 1, 1, 0L);
                A.due("look(4) with one more", bytes[i] + 1, x.look(4));
                A.due("look(3)", 2, x.look(3));
            }
        }
        BandPainter x = new BandPainter(6, 4, 1);
        x.rule(0, 0, 5, 5);
        x.stamp(x.shape(9, 9), 0, 0);
        A.due("look(4) without rows", 0, x.look(4));
    }

    /** 512 calls never fill this room; what is answered behind them is free, and this class keeps to the document. */
    private static void roomForMarks() {
        A.part("there is room for 4096 marks");
        BandPainter x = new BandPainter(6, 4, 1);
        Answers.smallShape(x);
        for (int i = 0; i < 4095; i++) {
            x.rule(9, 9, 1, 1);
        }
        A.due("row, the 4096th", true, x.row(0, 0, 1, 1, -1L));
        A.due("rule, one more", false, x.rule(0, 1, 1, 1));
        A.due("row, one more", false, x.row(0, 1, 1, 1, -1L));
        A.due("stamp, one more", false, x.stamp(0, 0, 1));
        A.due("of(0, 3)", 0, x.of(0, 3));
        A.due("look(3)", 4096, x.look(3));
        A.due("look(4)", 1, x.look(4));
        A.due("count(0, 3)", 1, x.count(0, 3));
        x.eject();
        A.due("stamp behind eject", true, x.stamp(0, 0, 1));
    }

    private static void roomForBytes() {
        A.part("there is room for 65536 bytes of rows: 4096 marks have 32768 at most");
        BandPainter x = new BandPainter(6, 4, 1);
        int laid = 0;
        for (int i = 0; i < 4096; i++) {
            laid += x.row(9, 9, 1, 64, -1L) ? 1 : 0;
        }
        A.due("rows that were laid", 4096, laid);
        A.due("look(4)", 32768, x.look(4));
    }
}
