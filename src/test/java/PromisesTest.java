/** The promises of the document, one by one: ordinary inputs, the edges that it names, and wrong inputs. */
public final class PromisesTest {
    private static final int LOWEST = Integer.MIN_VALUE;
    private static final int HIGHEST = Integer.MAX_VALUE;
    private static final Answers A = new Answers();

    public static void main(String[] args) {
        newObject();
        shape();
        draw();
        ink();
        shades();
        hatches();
        mode();
        turn();
        clip();
        stamp();
        rule();
        row();
        eject();
        line();
        black();
        count();
        top();
        of();
        look();
        A.end();
    }

    private static void newObject() {
        A.part("promise 1, a new object");
        A.dueLooks(new BandPainter(70, 20, 3), 70, 20, 3, 0, 0, 0, 0, 0, 0, 0, 0, 0);
        A.dueLooks(new BandPainter(0, 0, 0), 1, 1, 1);
        A.dueLooks(new BandPainter(-1, -1, -1), 1, 1, 1);
        A.dueLooks(new BandPainter(LOWEST, LOWEST, LOWEST), 1, 1, 1);
        A.dueLooks(new BandPainter(5100, 5100, 5100), 5100, 5100, 5100);
        A.dueLooks(new BandPainter(5101, 5101, 5101), 5100, 5100, 5100);
        A.dueLooks(new BandPainter(HIGHEST, HIGHEST, HIGHEST), 5100, 5100, 5100);
        A.dueLooks(new BandPainter(10, 20, 20), 10, 20, 20);
        A.dueLooks(new BandPainter(10, 20, 21), 10, 20, 20);
        A.dueLooks(new BandPainter(30, 2, 15), 30, 2, 2);

        BandPainter x = new BandPainter(10, 4, 2);
        A.due("count(0, 3)", 0, x.count(0, 3));
        A.due("top(0)", -1, x.top(0));
        A.due("rule over all", true, x.rule(-10, -10, 100, 100));
        A.dueLines(x, 0, "1111111111", "1111111111", "1111111111", "1111111111", "");

        A.part("promise 1, what is not opaque");
        BandPainter z = new BandPainter(10, 4, 2);
        z.rule(0, 0, 10, 1);
        z.row(0, 0, 1, 4, 0L);
        A.dueLines(z, 0, "1111111111");
        z.ink(1, 0);
        z.row(0, 0, 1, 4, -1L);
        A.dueLines(z, 0, "1111111111");

        A.part("promise 1, a band changes nothing of what is told");
        for (int band = 0; band <= 41; band += 3) {
            BandPainter b = new BandPainter(100, 40, band);
            b.ink(2, 30);
            b.rule(8, 8, 80, 24);
            A.due("count with band " + band + ", 20 of each 64", 600, b.count(0, 39));
        }
    }

    private static void shape() {
        A.part("promise 2, shape");
        BandPainter x = new BandPainter(10, 10, 1);
        A.dueText("shape(1, 1)", "0", Answers.shape(x, 1, 1));
        A.dueText("shape(128, 128)", "1", Answers.shape(x, 128, 128));
        int[] wrong = {0, -1, 129, LOWEST, HIGHEST};
        for (int w : wrong) {
            A.dueText("shape(" + w + ", 1)", "IllegalArgumentException", Answers.shape(x, w, 1));
            A.dueText("shape(1, " + w + ")", "IllegalArgumentException", Answers.shape(x, 1, w));
        }
        A.due("look(5)", 2, x.look(5));
        A.due("look(6)", 129, x.look(6));
        A.due("of(2, 0)", -1, x.of(2, 0));
        A.dueText("shape(128, 1)", "2", Answers.shape(x, 128, 1));
        A.due("of(2, 2), white at first", 0, x.of(2, 2));

        A.part("promise 2, 64 shapes");
        x = new BandPainter(10, 10, 1);
        for (int i = 0; i < 64; i++) {
            A.dueText("shape(1, 1)", Integer.toString(i), Answers.shape(x, 1, 1));
        }
        A.dueText("shape(1, 1)", "IllegalStateException", Answers.shape(x, 1, 1));
        A.dueText("shape(0, 1)", "IllegalArgumentException", Answers.shape(x, 0, 1));
        A.due("look(5)", 64, x.look(5));
        A.due("look(6)", 64, x.look(6));
        x.eject();
        A.dueText("shape(1, 1) after eject", "IllegalStateException", Answers.shape(x, 1, 1));

        A.part("promise 2, 4096 rows");
        x = new BandPainter(10, 10, 1);
        for (int i = 0; i < 31; i++) {
            x.shape(1, 128);
        }
        A.dueText("shape(2, 120)", "31", Answers.shape(x, 2, 120));
        A.dueText("shape(2, 9)", "IllegalStateException", Answers.shape(x, 2, 9));
        A.dueText("shape(2, 129)", "IllegalArgumentException", Answers.shape(x, 2, 129));
        A.due("look(6)", 4088, x.look(6));
        A.dueText("shape(2, 8)", "32", Answers.shape(x, 2, 8));
        A.due("look(6)", 4096, x.look(6));
        A.dueText("shape(1, 1)", "IllegalStateException", Answers.shape(x, 1, 1));
        A.due("look(5)", 33, x.look(5));
    }

    private static void draw() {
        A.part("promise 3, draw");
        BandPainter x = new BandPainter(200, 10, 1);
        int narrow = x.shape(3, 2);
        A.due("draw with dots that there are not", true, x.draw(narrow, 0, -1L, -1L));
        A.due("of(0, 2)", 3, x.of(narrow, 2));
        A.due("draw anew", true, x.draw(narrow, 0, Answers.dots("1011"), -1L));
        A.due("of(0, 2)", 2, x.of(narrow, 2));
        A.due("draw(0, -1, ..)", false, x.draw(narrow, -1, -1L, -1L));
        A.due("draw(0, 2, ..)", false, x.draw(narrow, 2, -1L, -1L));
        A.due("draw(0, LOWEST, ..)", false, x.draw(narrow, LOWEST, -1L, -1L));
        A.due("draw(0, HIGHEST, ..)", false, x.draw(narrow, HIGHEST, -1L, -1L));
        A.due("draw(1, 0, ..)", false, x.draw(1, 0, -1L, -1L));
        A.due("draw(-1, 0, ..)", false, x.draw(-1, 0, -1L, -1L));
        A.due("draw(LOWEST, 0, ..)", false, x.draw(LOWEST, 0, -1L, -1L));
        A.due("draw(HIGHEST, 0, ..)", false, x.draw(HIGHEST, 0, -1L, -1L));
        A.due("of(0, 2)", 2, x.of(narrow, 2));

        int[] across = {63, 64, 65, 127, 128};
        for (int w : across) {
            int number = x.shape(w, 1);
            x.draw(number, 0, -1L, -1L);
            A.due("of(.., 2) for " + w + " across", w, x.of(number, 2));
        }
        int wide = x.shape(70, 1);
        x.draw(wide, 0, Answers.dots("1"), Answers.dots("0000011"));
        A.due("of(.., 2)", 2, x.of(wide, 2));
        A.due("stamp", true, x.stamp(wide, 0, 5));
        A.due("line(5, 0)", Answers.dots("1"), x.line(5, 0));
        A.due("line(5, 1)", Answers.dots("000001"), x.line(5, 1));
        A.due("draw of a stamped one", false, x.draw(wide, 0, -1L, -1L));
        A.due("of(.., 2)", 2, x.of(wide, 2));
        A.due("count(0, 9)", 2, x.count(0, 9));
        A.due("draw of another one", true, x.draw(narrow, 1, -1L, -1L));
        x.eject();
        A.due("draw after eject", true, x.draw(wide, 0, Answers.dots("111"), 0L));
        x.stamp(wide, 0, 5);
        A.dueLines(x, 5, "111");
    }

    private static void ink() {
        A.part("promise 4, ink");
        BandPainter x = new BandPainter(16, 16, 1);
        int[][] right = {{0, 0}, {0, 77}, {1, -5}, {2, 1}, {2, 100}, {2, 50}, {3, 1}, {3, 6}, {0, LOWEST},
            {1, HIGHEST}};
        for (int[] it : right) {
            A.due("ink(" + it[0] + ", " + it[1] + ")", true, x.ink(it[0], it[1]));
            A.due("look(7)", it[0], x.look(7));
            A.due("look(8)", it[0] < 2 ? 0 : it[1], x.look(8));
        }
        x.ink(2, 40);
        int[][] wrong = {{2, 0}, {2, 101}, {2, -1}, {3, 0}, {3, 7}, {3, -1}, {4, 1}, {-1, 1}, {LOWEST, 1}, {HIGHEST, 1},
            {2, LOWEST}, {3, HIGHEST}};
        for (int[] it : wrong) {
            A.due("ink(" + it[0] + ", " + it[1] + ")", false, x.ink(it[0], it[1]));
            A.due("look(7)", 2, x.look(7));
            A.due("look(8)", 40, x.look(8));
        }

        A.part("promise 4, a mark keeps its ink");
        x.ink(0, 0);
        x.rule(0, 0, 4, 1);
        x.ink(1, 0);
        A.dueLines(x, 0, "1111");
    }

    private static void shades() {
        A.part("promise 4, shades");
        int[][] table = {{1, 1}, {2, 2}, {3, 2}, {4, 3}, {10, 7}, {25, 16}, {33, 22}, {50, 32}, {75, 48}, {99, 64},
            {98, 63}, {100, 64}};
        for (int[] it : table) {
            BandPainter x = new BandPainter(80, 40, 1);
            x.ink(2, it[0]);
            x.rule(8, 16, 8, 8);
            A.due("blacks of 64 in a shade of " + it[0], it[1], x.count(0, 39));
        }
        BandPainter x = new BandPainter(80, 40, 1);
        x.ink(2, 1);
        x.rule(0, 0, 80, 40);
        A.dueLines(x, 8, "1000000010000000100000001000000010000000100000001000000010000000", "", "", "", "", "", "", "",
                "1000000010000000100000001000000010000000100000001000000010000000");
        A.due("line(8, 1)", Answers.dots("1000000010000000"), x.line(8, 1));
        // D(1, 1) = 16 is the 17th from below: a shade with 16 has it not, one with 17 has it.
        int[][] edges = {{25, 0}, {26, 1}};
        for (int[] it : edges) {
            BandPainter z = new BandPainter(8, 8, 1);
            z.ink(2, it[0]);
            z.rule(0, 0, 8, 8);
            A.due("black(1, 1) in a shade of " + it[0], it[1] == 1, z.black(1, 1));
        }
        BandPainter z = new BandPainter(8, 8, 1);
        z.ink(2, 51);
        z.rule(0, 0, 8, 8);
        A.due("black(1, 0), D = 32 below 33", true, z.black(1, 0));
        A.due("black(0, 1), D = 48", false, z.black(0, 1));
    }

    private static void hatches() {
        A.part("promise 4, hatches");
        String[] ones = {"0000000110000000", "1111111111111111"};
        dueHatch(1, 7, ones[1]);
        dueHatch(1, 8, ones[1]);
        dueHatch(1, 6, "");
        dueHatch(1, 9, "");
        dueHatch(2, 0, ones[0]);
        dueHatch(2, 15, ones[0]);
        dueHatch(3, 0, "1100000000000000");
        dueHatch(3, 1, "1000000000000001");
        dueHatch(3, 2, "0000000000000011");
        dueHatch(3, 15, "0110000000000000");
        dueHatch(4, 0, "1100000000000000");
        dueHatch(4, 1, "0110000000000000");
        dueHatch(4, 15, "1000000000000001");
        dueHatch(5, 0, ones[0]);
        dueHatch(5, 7, ones[1]);
        dueHatch(6, 0, "1100000000000000");
        dueHatch(6, 1, "1110000000000001");
        dueHatch(6, 8, "0000000011000000");
        dueHatch(6, 9, "0000000111100000");
    }

    private static void dueHatch(int value, int v, String sixteen) {
        BandPainter x = new BandPainter(128, 64, 1);
        x.ink(3, value);
        x.rule(0, 0, 128, 64);
        String four = sixteen + sixteen + sixteen + sixteen;
        for (int y = v; y < 64; y += 16) {
            A.due("hatch " + value + ": line(" + y + ", 0)", Answers.dots(four), x.line(y, 0));
            A.due("hatch " + value + ": line(" + y + ", 1)", Answers.dots(four), x.line(y, 1));
        }
    }

    private static void mode() {
        A.part("promise 5, mode");
        // In line 1 hatch 4 is black at 1 and 2; the mark's dots at 0 and 1 are black, those at 2 and 3 white ones.
        String[] due = {"1111111111", "0111111111", "1100111111", "0100111111"};
        for (int k = 0; k < 4; k++) {
            boolean source = k >= 2;
            boolean ink = k % 2 == 1;
            BandPainter x = new BandPainter(10, 3, 1);
            x.rule(0, 0, 10, 3);
            x.mode(source, ink);
            A.due("look(9)", source ? 1 : 0, x.look(9));
            A.due("look(10)", ink ? 1 : 0, x.look(10));
            x.ink(3, 4);
            x.row(0, 1, 1, 4, Answers.dots("1100"));
            A.dueLines(x, 0, "1111111111", due[k], "1111111111");
        }
        BandPainter x = new BandPainter(10, 1, 1);
        x.mode(true, true);
        x.rule(0, 0, 10, 1);
        x.ink(1, 0);
        x.rule(2, 0, 3, 1);
        x.mode(false, false);
        A.due("look(9)", 0, x.look(9));
        A.due("look(10)", 0, x.look(10));
        A.dueLines(x, 0, "1100011111");
        x.ink(0, 0);
        x.row(1, 0, 1, 3, Answers.dots("001"));
        A.dueLines(x, 0, "1101011111");
    }

    private static void turn() {
        A.part("promise 6, turn");
        BandPainter x = new BandPainter(10, 10, 1);
        int[] wrong = {-1, 4, LOWEST, HIGHEST};
        for (int k = 0; k < 4; k++) {
            A.due("turn(" + k + ")", true, x.turn(k));
            A.due("look(11)", k, x.look(11));
            for (int w : wrong) {
                A.due("turn(" + w + ")", false, x.turn(w));
                A.due("look(11)", k, x.look(11));
            }
        }
        String[][] due = {
            {"", "", "", "000011", "0000001", "", ""},
            {"", "0000010", "00001", "00001", "", "", ""},
            {"", "", "001", "00011", "", "", ""},
            {"", "", "", "00001", "00001", "0001", ""},
        };
        for (int k = 0; k < 4; k++) {
            BandPainter z = new BandPainter(10, 10, 1);
            int number = Answers.smallShape(z);
            z.turn(k);
            z.stamp(number, 4, 3);
            z.turn(0);
            A.part("promise 6, turn " + k);
            A.dueLines(z, 0, due[k]);
        }
        String[][] rules = {
            {"", "", "", "0000111", "0000111", "", ""},
            {"", "000011", "000011", "000011", "", "", ""},
            {"", "", "00111", "00111", "", "", ""},
            {"", "", "", "00011", "00011", "00011", ""},
        };
        for (int k = 0; k < 4; k++) {
            BandPainter z = new BandPainter(10, 10, 1);
            z.turn(k);
            z.rule(4, 3, 3, 2);
            A.part("promise 6, a rule by turn " + k);
            A.dueLines(z, 0, rules[k]);
        }
    }

    private static void clip() {
        A.part("promise 7, clip");
        BandPainter x = new BandPainter(10, 6, 1);
        A.due("clip(2, 1, 4, 3)", true, x.clip(2, 1, 4, 3));
        A.due("clip(3, 0, 2, 9)", false, x.clip(3, 0, 2, 9));
        A.due("clip(0, 3, 9, 2)", false, x.clip(0, 3, 9, 2));
        A.due("clip(HIGHEST, 0, LOWEST, 9)", false, x.clip(HIGHEST, 0, LOWEST, 9));
        x.rule(0, 0, 10, 6);
        A.dueLines(x, 0, "", "00111", "00111", "00111", "", "");
        A.due("clip(9, 5, 9, 5)", true, x.clip(9, 5, 9, 5));
        x.rule(0, 0, 10, 6);
        A.dueLines(x, 0, "", "00111", "00111", "00111", "", "0000000001");
        A.due("a clip beside the sheet", true, x.clip(10, 0, 20, 5));
        x.rule(0, 0, 10, 6);
        A.due("a clip above the sheet", true, x.clip(LOWEST, LOWEST, HIGHEST, -1));
        x.rule(0, 0, 10, 6);
        A.due("count(0, 5)", 10, x.count(0, 5));
        A.due("look(3)", 4, x.look(3));
        A.due("a clip of all", true, x.clip(LOWEST, LOWEST, HIGHEST, HIGHEST));
        x.rule(-5, -5, 100, 100);
        A.due("count(0, 5)", 60, x.count(0, 5));

        A.part("promise 7, a clip for what is opaque");
        x = new BandPainter(10, 1, 1);
        x.rule(0, 0, 10, 1);
        x.mode(true, true);
        x.clip(3, 0, 5, 0);
        x.row(0, 0, 1, 10, Answers.dots("0000100000"));
        A.dueLines(x, 0, "1110101111");
    }

    private static void stamp() {
        A.part("promise 8, stamp");
        BandPainter x = new BandPainter(10, 5, 1);
        int number = Answers.smallShape(x);
        int[][] wrong = {{1, 0, 0}, {-1, 0, 0}, {LOWEST, 0, 0}, {HIGHEST, 0, 0}, {0, 10001, 0}, {0, -10001, 0},
            {0, 0, 10001}, {0, 0, -10001}, {0, LOWEST, 0}, {0, 0, HIGHEST}};
        for (int[] it : wrong) {
            A.due("stamp(" + it[0] + ", " + it[1] + ", " + it[2] + ")", false, x.stamp(it[0], it[1], it[2]));
        }
        A.due("of(0, 3)", 0, x.of(number, 3));
        A.due("look(3)", 0, x.look(3));
        A.due("stamp(0, 2, 1)", true, x.stamp(number, 2, 1));
        A.dueLines(x, 0, "", "0011", "00001", "", "");
        A.due("of(0, 3)", 1, x.of(number, 3));
        A.due("stamp(0, -1, -1)", true, x.stamp(number, -1, -1));
        A.dueLines(x, 0, "01", "0011", "00001", "", "");
        A.due("stamp(0, 9, 4)", true, x.stamp(number, 9, 4));
        A.dueLines(x, 4, "0000000001");
        int[][] far = {{10000, 0}, {-10000, 0}, {0, 10000}, {0, -10000}};
        for (int[] it : far) {
            A.due("stamp(0, " + it[0] + ", " + it[1] + ")", true, x.stamp(number, it[0], it[1]));
        }
        A.due("look(3)", 7, x.look(3));
        A.due("count(0, 4)", 5, x.count(0, 4));

        A.part("promise 8, a stamp off the sheet is a stamp");
        x = new BandPainter(10, 5, 1);
        number = Answers.smallShape(x);
        x.stamp(number, 5000, 5000);
        A.due("of(0, 3)", 1, x.of(number, 3));
        A.due("draw", false, x.draw(number, 0, 0L, 0L));
        A.due("look(3)", 1, x.look(3));

        A.part("promise 8, a wide shape over the words of a line");
        x = new BandPainter(300, 3, 1);
        number = x.shape(128, 1);
        x.draw(number, 0, -1L, -1L);
        x.stamp(number, 60, 1);
        A.due("line(1, 0)", 15L, x.line(1, 0));
        A.due("line(1, 1)", -1L, x.line(1, 1));
        A.due("line(1, 2)", -1L << 4, x.line(1, 2));
        A.due("line(1, 3)", 0L, x.line(1, 3));
    }

    private static void rule() {
        A.part("promise 9, rule");
        BandPainter x = new BandPainter(10, 5, 1);
        int[][] wrong = {{0, 0, 0, 1}, {0, 0, 1, 0}, {0, 0, 10001, 1}, {0, 0, 1, 10001}, {10001, 0, 1, 1},
            {-10001, 0, 1, 1}, {0, 10001, 1, 1}, {0, -10001, 1, 1}, {0, 0, -1, 1}, {0, 0, 1, LOWEST},
            {LOWEST, 0, 9, 9}, {0, HIGHEST, 9, 9}, {0, 0, HIGHEST, HIGHEST}};
        for (int[] it : wrong) {
            A.due("rule(" + it[0] + ", " + it[1] + ", " + it[2] + ", " + it[3] + ")", false,
                    x.rule(it[0], it[1], it[2], it[3]));
        }
        A.due("look(3)", 0, x.look(3));
        A.due("count(0, 4)", 0, x.count(0, 4));
        A.due("rule(2, 1, 3, 2)", true, x.rule(2, 1, 3, 2));
        A.dueLines(x, 0, "", "00111", "00111", "", "");
        A.due("rule(-9999, 4, 10000, 1)", true, x.rule(-9999, 4, 10000, 1));
        A.due("rule(9, -10000, 1, 10000)", true, x.rule(9, -10000, 1, 10000));
        A.dueLines(x, 0, "", "00111", "00111", "", "1");
        A.due("rule(9, -9999, 1, 10000)", true, x.rule(9, -9999, 1, 10000));
        A.dueLines(x, 0, "0000000001", "00111", "00111", "", "1");
        A.due("rule(10000, 10000, 10000, 10000)", true, x.rule(10000, 10000, 10000, 10000));
        A.due("look(3)", 5, x.look(3));
        A.due("look(4)", 0, x.look(4));
        x.turn(2);
        A.due("rule(10000, 10000, 10000, 10000) by 2", true, x.rule(10000, 10000, 10000, 10000));
        A.due("count(0, 4)", 8 + 9 * 4 - 6, x.count(0, 4));
    }

    private static void row() {
        A.part("promise 10, row");
        BandPainter x = new BandPainter(20, 6, 1);
        int[][] wrong = {{0, 0, 0, 1}, {0, 0, 9, 1}, {0, 0, 1, 0}, {0, 0, 1, 65}, {10001, 0, 1, 1}, {-10001, 0, 1, 1},
            {0, 10001, 1, 1}, {0, -10001, 1, 1}, {0, 0, -1, 1}, {0, 0, 1, -1}, {0, 0, LOWEST, HIGHEST},
            {0, 0, HIGHEST, 5}, {HIGHEST, LOWEST, 1, 1}};
        for (int[] it : wrong) {
            A.due("row(" + it[0] + ", " + it[1] + ", " + it[2] + ", " + it[3] + ", -1)", false,
                    x.row(it[0], it[1], it[2], it[3], -1L));
        }
        A.due("look(3)", 0, x.look(3));
        A.due("look(4)", 0, x.look(4));
        A.due("row(1, 1, 1, 5, ..)", true, x.row(1, 1, 1, 5, Answers.dots("1010111")));
        A.dueLines(x, 0, "", "010101", "");
        A.due("look(4)", 1, x.look(4));
        A.due("row(2, 3, 3, 3, ..)", true, x.row(2, 3, 3, 3, Answers.dots("101")));
        A.dueLines(x, 2, "", "00111000111", "00111000111", "00111000111", "");
        A.due("look(4)", 2, x.look(4));
        int[][] bytes = {{8, 1}, {9, 2}, {16, 2}, {17, 3}, {57, 8}, {64, 8}};
        int sum = 2;
        for (int[] it : bytes) {
            A.due("row of " + it[0], true, x.row(10000, -10000, 8, it[0], -1L));
            sum += it[1];
            A.due("look(4)", sum, x.look(4));
        }
        A.due("look(3)", 8, x.look(3));

        A.part("promise 10, a row of 64 made larger to 8");
        // For each turn: where it is laid, the first line with a black dot, a word of that line, and that word's dots.
        int[][] at = {{0, 0}, {0, 511}, {511, 511}, {511, 0}};
        int[] tops = {0, 8, 504, 0};
        int[] words = {0, 0, 0, 7};
        long[] due = {0xFF00FF00FF00FF00L, 0xFF00000000000000L, 0x00FF00FF00FF00FFL, 0x00000000000000FFL};
        for (int k = 0; k < 4; k++) {
            x = new BandPainter(520, 520, 1);
            x.turn(k);
            x.row(at[k][0], at[k][1], 8, 64, 0xAAAAAAAAAAAAAAAAL);
            A.due("count(0, 519) by " + k, 32 * 64, x.count(0, 519));
            A.due("top(0) by " + k, tops[k], x.top(0));
            for (int y = tops[k]; y < tops[k] + 8; y++) {
                A.due("line(" + y + ", " + words[k] + ") by " + k, due[k], x.line(y, words[k]));
            }
            A.due("look(4)", 8, x.look(4));
        }
    }

    private static void eject() {
        A.part("promise 11, eject");
        BandPainter x = new BandPainter(40, 30, 4);
        int number = Answers.smallShape(x);
        x.ink(3, 2);
        x.mode(true, true);
        x.turn(3);
        x.clip(7, 7, 10, 10);
        x.stamp(number, 8, 7);
        x.rule(12, 7, 5, 6);
        x.row(8, 8, 2, 9, -1L);
        A.due("look(3)", 3, x.look(3));
        A.due("look(4)", 2, x.look(4));
        A.due("top(0)", 7, x.top(0));
        x.eject();
        A.dueLooks(x, 40, 30, 4, 0, 0, 1, 2, 3, 2, 1, 1, 3);
        A.due("count(0, 29)", 0, x.count(0, 29));
        A.due("top(0)", -1, x.top(0));
        A.due("line(7, 0)", 0L, x.line(7, 0));
        A.dueText("black(7, 7)", "false", Answers.black(x, 7, 7));
        A.due("of(0, 2)", 3, x.of(number, 2));
        A.due("of(0, 3)", 0, x.of(number, 3));
        A.due("draw", true, x.draw(number, 0, 0L, 0L));
        A.due("draw", true, x.draw(number, 1, -1L, -1L));
        A.due("of(0, 2)", 3, x.of(number, 2));

        A.part("promise 11, clip, turn and ink stay");
        x.stamp(number, 8, 8);
        A.dueLines(x, 7, "", "00000001", "00000001", "00000001", "");
        A.due("draw of a stamped one", false, x.draw(number, 0, 0L, 0L));
        A.due("look(3)", 1, x.look(3));
        x.eject();
        x.eject();
        A.due("count(0, 29)", 0, x.count(0, 29));
    }

    private static void line() {
        A.part("promise 12, line");
        BandPainter x = new BandPainter(70, 3, 1);
        x.rule(0, 0, 200, 3);
        A.due("line(0, 0)", -1L, x.line(0, 0));
        A.due("line(2, 1)", Answers.dots("111111"), x.line(2, 1));
        int[][] none = {{-1, 0}, {3, 0}, {0, -1}, {0, 2}, {LOWEST, 0}, {HIGHEST, 0}, {0, LOWEST}, {0, HIGHEST},
            {LOWEST, LOWEST}, {0, 1 << 26}, {0, -(1 << 26)}};
        for (int[] it : none) {
            A.due("line(" + it[0] + ", " + it[1] + ")", 0L, x.line(it[0], it[1]));
        }
        int[] widths = {1, 63, 64, 65, 128, 129, 5100};
        for (int w : widths) {
            BandPainter z = new BandPainter(w, 1, 1);
            z.rule(0, 0, 10000, 1);
            int blacks = 0;
            for (int k = 0; k <= 81; k++) {
                blacks += Long.bitCount(z.line(0, k));
            }
            A.due("all words of a line " + w + " across", w, blacks);
            A.due("the last word", (w - 1) % 64 == 63 ? -1L : -1L << 63 - (w - 1) % 64, z.line(0, (w - 1) / 64));
        }
        A.part("promise 12, one mark over the other");
        x = new BandPainter(12, 1, 1);
        x.mode(true, true);
        x.rule(0, 0, 12, 1);
        x.row(2, 0, 1, 6, 0L);
        x.row(4, 0, 1, 2, Answers.dots("10"));
        x.ink(1, 0);
        x.rule(10, 0, 1, 1);
        A.dueLines(x, 0, "110010001101");
    }

    private static void black() {
        A.part("promise 13, black");
        BandPainter x = new BandPainter(70, 3, 1);
        x.rule(63, 1, 2, 1);
        boolean[] due = {false, true, true, false};
        for (int i = 0; i < 4; i++) {
            A.dueText("black(" + (62 + i) + ", 1)", Boolean.toString(due[i]), Answers.black(x, 62 + i, 1));
            A.dueText("black(" + (62 + i) + ", 0)", "false", Answers.black(x, 62 + i, 0));
            A.dueText("black(" + (62 + i) + ", 2)", "false", Answers.black(x, 62 + i, 2));
        }
        x.rule(69, 2, 1, 1);
        x.rule(0, 0, 1, 1);
        A.dueText("black(69, 2)", "true", Answers.black(x, 69, 2));
        A.dueText("black(0, 0)", "true", Answers.black(x, 0, 0));
        int[][] none = {{-1, 0}, {70, 0}, {0, -1}, {0, 3}, {LOWEST, 0}, {HIGHEST, 0}, {0, LOWEST}, {0, HIGHEST},
            {70, 3}, {-1, -1}};
        for (int[] it : none) {
            A.dueText("black(" + it[0] + ", " + it[1] + ")", "IndexOutOfBoundsException",
                    Answers.black(x, it[0], it[1]));
        }
    }

    private static void count() {
        A.part("promise 14, count");
        BandPainter x = new BandPainter(100, 50, 1);
        x.rule(90, 10, 20, 5);
        x.rule(0, 49, 7, 1);
        x.rule(0, 0, 3, 1);
        int[][] due = {{0, 49, 60}, {0, 0, 3}, {1, 9, 0}, {10, 10, 10}, {10, 14, 50}, {12, 40, 30}, {14, 15, 10},
            {15, 48, 0}, {49, 49, 7}, {50, 60, 0}, {-5, -1, 0}, {-1, 0, 3}, {49, HIGHEST, 7}, {LOWEST, HIGHEST, 60},
            {14, 10, 0}, {HIGHEST, LOWEST, 0}, {HIGHEST, HIGHEST, 0}, {LOWEST, LOWEST, 0}};
        for (int[] it : due) {
            A.due("count(" + it[0] + ", " + it[1] + ")", it[2], x.count(it[0], it[1]));
        }
        A.part("promise 14, count between marks");
        x.mode(true, true);
        x.ink(1, 0);
        x.rule(92, 11, 3, 2);
        A.due("count(0, 49)", 54, x.count(0, 49));
        x.ink(3, 1);
        x.rule(0, 0, 100, 50);
        A.due("count(0, 49)", 600, x.count(0, 49));
        A.due("count(40, 40)", 100, x.count(40, 40));
        A.due("count(41, 49)", 0, x.count(41, 49));
        x.row(0, 40, 1, 64, 0L);
        A.due("count(0, 49)", 536, x.count(0, 49));
        A.due("count(40, 40)", 36, x.count(40, 40));
    }

    private static void top() {
        A.part("promise 15, top");
        BandPainter x = new BandPainter(100, 50, 1);
        A.due("top(0)", -1, x.top(0));
        x.rule(99, 10, 1, 2);
        x.rule(0, 49, 1, 1);
        int[][] due = {{0, 10}, {-1, 10}, {LOWEST, 10}, {9, 10}, {10, 10}, {11, 11}, {12, 49}, {48, 49}, {49, 49},
            {50, -1}, {51, -1}, {HIGHEST, -1}};
        for (int[] it : due) {
            A.due("top(" + it[0] + ")", it[1], x.top(it[0]));
        }
        x.mode(false, true);
        x.ink(1, 0);
        x.rule(0, 0, 100, 11);
        A.due("top(0)", 11, x.top(0));
        x.rule(0, 0, 100, 50);
        A.due("top(0)", -1, x.top(0));
        x.ink(0, 0);
        x.rule(0, 0, 1, 1);
        A.due("top(0)", 0, x.top(0));
        A.due("top(1)", -1, x.top(1));
        A.due("NONE", -1, BandPainter.NONE);
    }

    private static void of() {
        A.part("promise 16, of");
        BandPainter x = new BandPainter(100, 50, 1);
        A.due("of(0, 0)", -1, x.of(0, 0));
        x.shape(70, 5);
        x.shape(1, 128);
        x.draw(0, 4, -1L, -1L);
        x.stamp(1, 0, 0);
        int[][] due = {{0, 0, 70}, {0, 1, 5}, {0, 2, 70}, {0, 3, 0}, {1, 0, 1}, {1, 1, 128}, {1, 2, 0}, {1, 3, 1},
            {0, 4, -1}, {0, -1, -1}, {2, 0, -1}, {-1, 0, -1}, {LOWEST, 1, -1}, {HIGHEST, 1, -1}, {0, LOWEST, -1},
            {0, HIGHEST, -1}, {64, 0, -1}};
        for (int[] it : due) {
            A.due("of(" + it[0] + ", " + it[1] + ")", it[2], x.of(it[0], it[1]));
        }
    }

    private static void look() {
        A.part("promise 17, look");
        BandPainter x = new BandPainter(100, 50, 12);
        x.shape(10, 11);
        x.shape(10, 20);
        x.stamp(1, 0, 0);
        x.row(0, 0, 8, 17, 0L);
        x.row(0, 0, 1, 1, 0L);
        x.rule(0, 0, 1, 1);
        x.ink(2, 33);
        x.mode(true, false);
        x.turn(2);
        A.dueLooks(x, 100, 50, 12, 4, 4, 2, 31, 2, 33, 1, 0, 2, -1, -1);
        x.mode(false, true);
        x.ink(1, 9);
        A.dueLooks(x, 100, 50, 12, 4, 4, 2, 31, 1, 0, 0, 1, 2, -1, -1);
        int[] none = {-1, 12, LOWEST, HIGHEST};
        for (int which : none) {
            A.due("look(" + which + ")", -1, x.look(which));
        }
    }
}
