import java.util.ArrayList;
import java.util.List;

/**
 * "What throws, or answers false, changes nothing": each call that is refused is made on one of two objects which are
 * alike, and both are told, and used further, as before. Calls that only ask change nothing either.
 */
public final class RefusalsTest {
    private static final int LOWEST = Integer.MIN_VALUE;
    private static final int HIGHEST = Integer.MAX_VALUE;
    private static final int[] ODD = {LOWEST, -10001, -1, 10001, HIGHEST};
    private static final Answers A = new Answers();

    /** A call, and what it answers as a text. */
    private interface Call {
        String on(BandPainter x);
    }

    private static final class Refused {
        final String name;
        final String answer;
        final Call call;

        Refused(String name, String answer, Call call) {
            this.name = name;
            this.answer = answer;
            this.call = call;
        }
    }

    public static void main(String[] args) {
        for (Refused refused : refusedCalls()) {
            for (int settings = 0; settings < 4; settings++) {
                changesNothing(refused, settings);
            }
        }
        A.end();
    }

    private static void changesNothing(Refused refused, int settings) {
        A.part("what is refused changes nothing");
        BandPainter plain = laid(settings);
        BandPainter x = laid(settings);
        A.dueText(refused.name, refused.answer, refused.call.on(x));
        A.dueText("told behind " + refused.name, told(plain), told(x));
        goOn(plain);
        goOn(x);
        A.dueText("told later behind " + refused.name, told(plain), told(x));
        plain.eject();
        x.eject();
        goOn(plain);
        goOn(x);
        A.dueText("told behind eject and " + refused.name, told(plain), told(x));
    }

    private static List<Refused> refusedCalls() {
        List<Refused> all = new ArrayList<>();
        addShapes(all);
        addSettings(all);
        addMarks(all);
        addQuestions(all);
        return all;
    }

    private static void add(List<Refused> all, String name, String answer, Call call) {
        all.add(new Refused(name, answer, call));
    }

    private static void addShapes(List<Refused> all) {
        for (int wrong : new int[] {LOWEST, -1, 0, 129, HIGHEST}) {
            add(all, "shape(" + wrong + ", 5)", "IllegalArgumentException", x -> Answers.shape(x, wrong, 5));
            add(all, "shape(5, " + wrong + ")", "IllegalArgumentException", x -> Answers.shape(x, 5, wrong));
        }
        add(all, "shape(1, 65), too many rows", "IllegalStateException", x -> Answers.shape(x, 1, 65));
        add(all, "shape(1, 128), too many rows", "IllegalStateException", x -> Answers.shape(x, 1, 128));
        for (int number : new int[] {LOWEST, -1, 34, 64, HIGHEST}) {
            add(all, "draw(" + number + ", 0, ..)", "false", x -> "" + x.draw(number, 0, -1L, -1L));
            add(all, "stamp(" + number + ", 1, 1)", "false", x -> "" + x.stamp(number, 1, 1));
        }
        for (int j : new int[] {LOWEST, -1, 2, 128, HIGHEST}) {
            add(all, "draw(1, " + j + ", ..)", "false", x -> "" + x.draw(1, j, -1L, -1L));
        }
        add(all, "draw of a stamped one", "false", x -> "" + x.draw(0, 0, 0L, 0L));
        for (int far : ODD) {
            if (far != -1) {
                add(all, "stamp(1, " + far + ", 1)", "false", x -> "" + x.stamp(1, far, 1));
                add(all, "stamp(1, 1, " + far + ")", "false", x -> "" + x.stamp(1, 1, far));
            }
        }
    }

    private static void addSettings(List<Refused> all) {
        for (int wrong : new int[] {LOWEST, -1, 4, HIGHEST}) {
            add(all, "ink(" + wrong + ", 1)", "false", x -> "" + x.ink(wrong, 1));
            add(all, "turn(" + wrong + ")", "false", x -> "" + x.turn(wrong));
        }
        for (int wrong : new int[] {LOWEST, -1, 0, 101, HIGHEST}) {
            add(all, "ink(2, " + wrong + ")", "false", x -> "" + x.ink(2, wrong));
            add(all, "ink(3, " + wrong + ")", "false", x -> "" + x.ink(3, wrong));
        }
        add(all, "ink(3, 7)", "false", x -> "" + x.ink(3, 7));
        int[][] clips = {{1, 0, 0, 9}, {0, 1, 9, 0}, {9, 9, 0, 0}, {HIGHEST, 0, LOWEST, 9}, {0, HIGHEST, 9, LOWEST}};
        for (int[] it : clips) {
            add(all, "clip(" + it[0] + ", " + it[1] + ", " + it[2] + ", " + it[3] + ")", "false",
                    x -> "" + x.clip(it[0], it[1], it[2], it[3]));
        }
    }

    private static void addMarks(List<Refused> all) {
        for (int far : ODD) {
            if (far != -1) {
                add(all, "rule(" + far + ", 0, 9, 9)", "false", x -> "" + x.rule(far, 0, 9, 9));
                add(all, "rule(0, " + far + ", 9, 9)", "false", x -> "" + x.rule(0, far, 9, 9));
                add(all, "row(" + far + ", 0, 1, 9, -1)", "false", x -> "" + x.row(far, 0, 1, 9, -1L));
                add(all, "row(0, " + far + ", 1, 9, -1)", "false", x -> "" + x.row(0, far, 1, 9, -1L));
            }
            add(all, "rule(0, 0, " + far + ", 9)", "false", x -> "" + x.rule(0, 0, far, 9));
            add(all, "rule(0, 0, 9, " + far + ")", "false", x -> "" + x.rule(0, 0, 9, far));
            add(all, "row(0, 0, " + far + ", 9, -1)", "false", x -> "" + x.row(0, 0, far, 9, -1L));
            add(all, "row(0, 0, 1, " + far + ", -1)", "false", x -> "" + x.row(0, 0, 1, far, -1L));
        }
        add(all, "rule(0, 0, 0, 9)", "false", x -> "" + x.rule(0, 0, 0, 9));
        add(all, "rule(0, 0, 9, 0)", "false", x -> "" + x.rule(0, 0, 9, 0));
        add(all, "row(0, 0, 0, 9, -1)", "false", x -> "" + x.row(0, 0, 0, 9, -1L));
        add(all, "row(0, 0, 9, 9, -1)", "false", x -> "" + x.row(0, 0, 9, 9, -1L));
        add(all, "row(0, 0, 1, 0, -1)", "false", x -> "" + x.row(0, 0, 1, 0, -1L));
        add(all, "row(0, 0, 1, 65, -1)", "false", x -> "" + x.row(0, 0, 1, 65, -1L));
    }

    private static void addQuestions(List<Refused> all) {
        for (int wrong : ODD) {
            add(all, "black(" + wrong + ", 0)", "IndexOutOfBoundsException", x -> Answers.black(x, wrong, 0));
            add(all, "black(0, " + wrong + ")", "IndexOutOfBoundsException", x -> Answers.black(x, 0, wrong));
            add(all, "line(" + wrong + ", 0)", "0", x -> "" + x.line(wrong, 0));
            add(all, "line(0, " + wrong + ")", "0", x -> "" + x.line(0, wrong));
            add(all, "count(" + wrong + ", " + wrong + ")", "0", x -> "" + x.count(wrong, wrong));
            add(all, "of(" + wrong + ", 0)", "-1", x -> "" + x.of(wrong, 0));
            add(all, "of(0, " + wrong + ")", "-1", x -> "" + x.of(0, wrong));
            add(all, "look(" + wrong + ")", "-1", x -> "" + x.look(wrong));
        }
        add(all, "top(40)", "-1", x -> "" + x.top(40));
        add(all, "top(HIGHEST)", "-1", x -> "" + x.top(HIGHEST));
    }

    /** 34 shapes with 4036 rows, the first one stamped, some marks, and the settings of one of four. */
    private static BandPainter laid(int settings) {
        BandPainter x = new BandPainter(100, 40, 5);
        Answers.smallShape(x);
        Answers.smallShape(x);
        x.shape(1, 64);
        for (int i = 0; i < 31; i++) {
            x.shape(1, 128);
        }
        x.rule(3, 3, 80, 30);
        x.stamp(0, 5, 35);
        x.row(60, 30, 3, 9, 0xA5A5A5A5A5A5A5A5L);
        int[][] inks = {{0, 0}, {1, 0}, {2, 30}, {3, 6}};
        x.ink(inks[settings][0], inks[settings][1]);
        x.mode(settings == 1 || settings == 2, settings != 3);
        x.turn(settings);
        x.clip(settings, 2 * settings, 95 - settings, 38 - settings);
        return x;
    }

    private static void goOn(BandPainter x) {
        x.draw(1, 0, Answers.dots("010"), 0L);
        x.stamp(1, 40, 20);
        x.row(50, 22, 2, 12, 0x5A5A5A5A5A5A5A5AL);
        x.rule(30, 18, 7, 9);
        x.rule(-40, -40, 50, 50);
        x.rule(99, 39, 3, 3);
    }

    private static String told(BandPainter x) {
        StringBuilder text = new StringBuilder();
        for (int which = 0; which < 12; which++) {
            text.append(x.look(which)).append(' ');
        }
        for (int number = 0; number < 4; number++) {
            for (int w = 0; w < 4; w++) {
                text.append(x.of(number, w)).append(' ');
            }
        }
        for (int y = 0; y < 40; y++) {
            text.append(x.line(y, 0)).append(' ').append(x.line(y, 1)).append(' ');
        }
        return text.append(x.count(0, 39)).append(' ').append(x.top(0)).toString();
    }
}
