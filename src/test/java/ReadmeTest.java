import java.io.IOException;
import java.nio.file.Files;
import java.nio.file.Path;
import java.util.ArrayList;
import java.util.List;

/** The example of README.md, call by call: what stands there is what is called here, and the answer is the one told. */
public final class ReadmeTest {
    private static final Answers A = new Answers();
    private static final List<String> CALLS = new ArrayList<>();
    private static final List<String> PICTURE = new ArrayList<>();
    private static int told = 0;

    public static void main(String[] args) throws IOException {
        A.part("the example of README.md");
        read();
        BandPainter painter = new BandPainter(16, 8, 4);
        told("BandPainter painter = new BandPainter(16, 8, 4);", "16 dots across");
        int arrow = painter.shape(3, 2);
        told("int arrow = painter.shape(3, 2);", arrow);
        lay(painter, arrow);
        ask(painter, arrow);
        picture(painter);
        ejected(painter, arrow);
        A.due("calls of README.md", CALLS.size(), told);
        A.end();
    }

    private static void lay(BandPainter painter, int arrow) {
        told("painter.draw(arrow, 0, 0b110L << 61, 0L);", painter.draw(arrow, 0, 0b110L << 61, 0L));
        told("painter.draw(arrow, 1, 0b001L << 61, 0L);", painter.draw(arrow, 1, 0b001L << 61, 0L));
        told("painter.draw(arrow, 2, -1L, -1L);", painter.draw(arrow, 2, -1L, -1L));
        told("painter.stamp(arrow, 1, 1);", painter.stamp(arrow, 1, 1));
        told("painter.draw(arrow, 0, 0L, 0L);", painter.draw(arrow, 0, 0L, 0L));
        told("painter.turn(1);", painter.turn(1));
        told("painter.stamp(arrow, 6, 3);", painter.stamp(arrow, 6, 3));
        told("painter.turn(0);", painter.turn(0));
        told("painter.row(10, 1, 2, 3, 0b101L << 61);", painter.row(10, 1, 2, 3, 0b101L << 61));
        told("painter.rule(0, 5, 16, 3);", painter.rule(0, 5, 16, 3));
        told("painter.ink(1, 0);", painter.ink(1, 0));
        painter.mode(false, true);
        told("painter.mode(false, true);", "the source lets through");
        told("painter.clip(2, 6, 5, 100);", painter.clip(2, 6, 5, 100));
        told("painter.rule(0, 0, 16, 7);", painter.rule(0, 0, 16, 7));
        told("painter.ink(2, 101);", painter.ink(2, 101));
    }

    private static void ask(BandPainter painter, int arrow) {
        long dots = painter.line(5, 0) >>> 48;
        told("long dots = painter.line(5, 0) >>> 48;", dots);
        told("painter.black(3, 6);", painter.black(3, 6));
        told("painter.count(0, 7);", painter.count(0, 7));
        told("painter.top(0);", painter.top(0));
        told("painter.of(arrow, 2);", painter.of(arrow, 2));
        told("painter.look(3);", painter.look(3));
    }

    private static void picture(BandPainter painter) {
        A.due("lines of the picture", 8, PICTURE.size());
        for (int y = 0; y < PICTURE.size() && y < 8; y++) {
            StringBuilder line = new StringBuilder();
            for (int x = 0; x < 16; x++) {
                line.append(painter.black(x, y) ? '#' : '.');
            }
            A.dueText("line " + y + " of the picture", PICTURE.get(y), line.toString());
        }
    }

    private static void ejected(BandPainter painter, int arrow) {
        painter.eject();
        told("painter.eject();", "no marks any more");
        A.due("look(3)", 0, painter.look(3));
        told("painter.top(0);", painter.top(0));
        told("painter.draw(arrow, 0, 0L, 0L);", painter.draw(arrow, 0, 0L, 0L));
    }

    /** The next call of README.md is this one, and the remark behind it begins with the answer. */
    private static void told(String call, Object answer) {
        String due = told < CALLS.size() ? CALLS.get(told) : "";
        told++;
        int behind = due.indexOf("//");
        A.dueText("call " + told, behind < 0 ? due : due.substring(0, behind).trim(), call);
        String remark = behind < 0 ? "" : due.substring(behind + 2).trim();
        A.due(call + " answers " + answer + " where README.md says '" + remark + "'", true,
                remark.matches("\\Q" + answer + "\\E\\b.*"));
    }

    private static void read() throws IOException {
        List<String> into = null;
        for (String line : Files.readAllLines(Path.of("README.md"))) {
            if (line.startsWith("```")) {
                into = line.equals("```java") ? CALLS : line.equals("```text") ? PICTURE : null;
            } else if (into != null && !line.isBlank()) {
                into.add(line);
            }
        }
    }
}
