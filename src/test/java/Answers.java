/** Compares answers with the ones that are due and prints those that differ; with one of these the exit code is 1. */
final class Answers {
    private int wrong = 0;
    private int asked = 0;
    private String part = "";

    void part(String name) {
        part = name;
    }

    void due(String call, long want, long got) {
        asked++;
        if (got != want) {
            wrong++;
            if (wrong <= 50) {
                System.out.println(part + ": " + call + " answered " + got + ", due is " + want);
            }
        }
    }

    void due(String call, boolean want, boolean got) {
        due(call, want ? 1L : 0L, got ? 1L : 0L);
    }

    /** The first dots of a word, written as 1 and 0. */
    static long dots(String first) {
        long word = 0L;
        for (int i = 0; i < first.length(); i++) {
            if (first.charAt(i) == '1') {
                word |= 1L << 63 - i;
            }
        }
        return word;
    }

    /** The first 64 dots of the lines from y on as they are due, written as 1 and 0. */
    void dueLines(BandPainter x, int y, String... lines) {
        for (int i = 0; i < lines.length; i++) {
            due("line(" + (y + i) + ", 0)", dots(lines[i]), x.line(y + i, 0));
        }
    }

    void dueLooks(BandPainter x, int... looks) {
        for (int which = 0; which < looks.length; which++) {
            due("look(" + which + ")", looks[which], x.look(which));
        }
    }

    /** A shape of three across and two down: 110 over 001. */
    static int smallShape(BandPainter x) {
        int number = x.shape(3, 2);
        x.draw(number, 0, dots("110"), 0L);
        x.draw(number, 1, dots("001"), 0L);
        return number;
    }

    /** The name of what a call of shape throws, or its answer as a text. */
    static String shape(BandPainter x, int w, int h) {
        try {
            return Integer.toString(x.shape(w, h));
        } catch (RuntimeException e) {
            return e.getClass().getSimpleName();
        }
    }

    static String black(BandPainter x, int at, int y) {
        try {
            return Boolean.toString(x.black(at, y));
        } catch (RuntimeException e) {
            return e.getClass().getSimpleName();
        }
    }

    void dueText(String call, String want, String got) {
        asked++;
        if (!got.equals(want)) {
            wrong++;
            if (wrong <= 50) {
                System.out.println(part + ": " + call + " answered " + got + ", due is " + want);
            }
        }
    }

    boolean allRight() {
        return wrong == 0;
    }

    void end() {
        System.out.println(asked + " answers, " + wrong + " wrong");
        if (wrong != 0) {
            System.exit(1);
        }
    }
}
