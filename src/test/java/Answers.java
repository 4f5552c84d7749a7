/** Compares answers with the ones that are due and prints those that differ; with one of these the exit code is 1. */
final class Answers {
    private int wrong = 0;
    private int asked = 0;
    private String part = "";

    void part(String name) {
        part = name;
    }

    void due(String call, long want, long got) {
        asked++;
        if (got != want) {
            wrong++;
            if (wrong <= 50) {
                System.out.println(part + ": " + call + " answered " + got + ", due is " + want);
            }
        }
    }

    void due(String call, boolean want, boolean got) {
        due(call, want ? 1L : 0L, got ? 1L : 0L);
    }

    /** The name of what a call of shape throws, or its answer as a text. */
    static String shape(BandPainter x, int w, int h) {
        try {
            return Integer.toString(x.shape(w, h));
        } catch (RuntimeException e) {
            return e.getClass().getSimpleName();
        }
    }

    static String black(BandPainter x, int at, int y) {
        try {
            return Boolean.toString(x.black(at, y));
        } catch (RuntimeException e) {
            return e.getClass().getSimpleName();
        }
    }

    void dueText(String call, String want, String got) {
        asked++;
        if (!got.equals(want)) {
            wrong++;
            if (wrong <= 50) {
                System.out.println(part + ": " + call + " answered " + got + ", due is " + want);
            }
        }
    }

    boolean allRight() {
        return wrong == 0;
    }

    void end() {
        System.out.println(asked + " answers, " + wrong + " wrong");
        if (wrong != 0) {
            System.exit(1);
        }
    }
}
