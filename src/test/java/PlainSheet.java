import java.util.ArrayList;
import java.util.List;

/**
 * The document word for word, with the whole sheet dot by dot: slow, and written apart from the class,
 * so that both can be compared.
 */
final class PlainSheet {
    final int width;
    final int height;
    final int band;
    private final boolean[][] sheet;
    private final List<boolean[][]> shapes = new ArrayList<>();
    private final List<Boolean> stamped = new ArrayList<>();
    private int shapeRows = 0;
    private int marks = 0;
    private int bytes = 0;
    private int kind = 0;
    private int value = 0;
    private boolean sourceOpaque = false;
    private boolean inkOpaque = false;
    private int turn = 0;
    private int[] clip;

    PlainSheet(int width, int height, int band) {
        this.width = Math.min(5100, Math.max(1, width));
        this.height = Math.min(5100, Math.max(1, height));
        this.band = Math.min(this.height, Math.max(1, band));
        this.sheet = new boolean[this.height][this.width];
        this.clip = new int[] {0, 0, this.width - 1, this.height - 1};
    }

    String shape(int w, int h) {
        if (w < 1 || w > 128 || h < 1 || h > 128) {
            return "IllegalArgumentException";
        }
        if (shapes.size() == 64 || shapeRows + h > 4096) {
            return "IllegalStateException";
        }
        shapes.add(new boolean[h][w]);
        stamped.add(false);
        shapeRows += h;
        return Integer.toString(shapes.size() - 1);
    }

    private boolean hasShape(int shape) {
        return shape >= 0 && shape < shapes.size();
    }

    boolean draw(int shape, int j, long left, long right) {
        if (!hasShape(shape) || stamped.get(shape) || j < 0 || j >= shapes.get(shape).length) {
            return false;
        }
        boolean[] row = shapes.get(shape)[j];
        for (int i = 0; i < row.length; i++) {
            long part = i < 64 ? left : right;
            row[i] = (part >> (63 - i % 64) & 1) == 1;
        }
        return true;
    }

    boolean ink(int kind, int value) {
        boolean plain = kind == 0 || kind == 1;
        boolean shade = kind == 2 && value >= 1 && value <= 100;
        boolean hatch = kind == 3 && value >= 1 && value <= 6;
        if (!plain && !shade && !hatch) {
            return false;
        }
        this.kind = kind;
        this.value = plain ? 0 : value;
        return true;
    }

    void mode(boolean source, boolean ink) {
        sourceOpaque = source;
        inkOpaque = ink;
    }

    boolean turn(int k) {
        if (k < 0 || k > 3) {
            return false;
        }
        turn = k;
        return true;
    }

    boolean clip(int x0, int y0, int x1, int y1) {
        if (x0 > x1 || y0 > y1) {
            return false;
        }
        clip = new int[] {x0, y0, x1, y1};
        return true;
    }

    private boolean farOff(int x, int y) {
        return x < -10000 || x > 10000 || y < -10000 || y > 10000;
    }

    boolean stamp(int shape, int x, int y) {
        if (!hasShape(shape) || farOff(x, y) || marks >= 4096) {
            return false;
        }
        stamped.set(shape, true);
        marks++;
        boolean[][] rows = shapes.get(shape);
        for (int j = 0; j < rows.length; j++) {
            for (int i = 0; i < rows[j].length; i++) {
                layDot(x, y, i, j, rows[j][i]);
            }
        }
        return true;
    }

    boolean rule(int x, int y, int w, int h) {
        if (farOff(x, y) || w < 1 || w > 10000 || h < 1 || h > 10000 || marks >= 4096) {
            return false;
        }
        marks++;
        for (int j = 0; j < h; j++) {
            for (int i = 0; i < w; i++) {
                layDot(x, y, i, j, true);
            }
        }
        return true;
    }

    boolean row(int x, int y, int scale, int n, long bits) {
        if (farOff(x, y) || scale < 1 || scale > 8 || n < 1 || n > 64 || marks >= 4096
                || bytes + (n + 7) / 8 > 65536) {
            return false;
        }
        marks++;
        bytes += (n + 7) / 8;
        for (int j = 0; j < scale; j++) {
            for (int i = 0; i < n * scale; i++) {
                layDot(x, y, i, j, (bits >> (63 - i / scale) & 1) == 1);
            }
        }
        return true;
    }

    private void layDot(int x, int y, int i, int j, boolean source) {
        int atX = turn == 0 ? x + i : turn == 1 ? x + j : turn == 2 ? x - i : x - j;
        int atY = turn == 0 ? y + j : turn == 1 ? y - i : turn == 2 ? y - j : y + i;
        if (!isOnSheet(atX, atY) || atX < clip[0] || atX > clip[2] || atY < clip[1] || atY > clip[3]) {
            return;
        }
        if (!source) {
            if (sourceOpaque) {
                sheet[atY][atX] = false;
            }
        } else if (isInkBlack(atX, atY)) {
            sheet[atY][atX] = true;
        } else if (inkOpaque) {
            sheet[atY][atX] = false;
        }
    }

    private boolean isInkBlack(int x, int y) {
        if (kind == 0 || kind == 1) {
            return kind == 0;
        }
        return kind == 2 ? depth(x % 8, y % 8) < (64 * value + 99) / 100 : hatch(value, x % 16, y % 16);
    }

    static int depth(int i, int j) {
        int sum = 0;
        for (int b = 0; b <= 2; b++) {
            boolean bitOfI = (i & 1 << b) != 0;
            boolean bitOfJ = (j & 1 << b) != 0;
            if (bitOfI != bitOfJ) {
                sum += 32 >> 2 * b;
            }
            if (bitOfJ) {
                sum += 16 >> 2 * b;
            }
        }
        return sum;
    }

    private static boolean hatch(int value, int u, int v) {
        if (value == 5) {
            return hatch(1, u, v) || hatch(2, u, v);
        }
        if (value == 6) {
            return hatch(3, u, v) || hatch(4, u, v);
        }
        return value == 1 && (v == 7 || v == 8)
                || value == 2 && (u == 7 || u == 8)
                || value == 3 && (u + v) % 16 < 2
                || value == 4 && (u - v + 16) % 16 < 2;
    }

    void eject() {
        for (boolean[] line : sheet) {
            java.util.Arrays.fill(line, false);
        }
        marks = 0;
        bytes = 0;
        for (int shape = 0; shape < stamped.size(); shape++) {
            stamped.set(shape, false);
        }
    }

    private boolean isOnSheet(int x, int y) {
        return x >= 0 && x < width && y >= 0 && y < height;
    }

    long line(int y, int k) {
        long dots = 0L;
        for (int b = 0; b < 64; b++) {
            long x = 64L * k + b;
            if (x >= 0 && x < width && y >= 0 && y < height && sheet[y][(int) x]) {
                dots |= 1L << 63 - b;
            }
        }
        return dots;
    }

    String black(int x, int y) {
        return isOnSheet(x, y) ? Boolean.toString(sheet[y][x]) : "IndexOutOfBoundsException";
    }

    int count(int y0, int y1) {
        int sum = 0;
        for (int y = 0; y < height; y++) {
            for (int x = 0; x < width; x++) {
                if (y >= y0 && y <= y1 && sheet[y][x]) {
                    sum++;
                }
            }
        }
        return sum;
    }

    int top(int y) {
        for (int at = 0; at < height; at++) {
            if (at >= y && count(at, at) > 0) {
                return at;
            }
        }
        return -1;
    }

    int of(int shape, int w) {
        if (!hasShape(shape) || w < 0 || w > 3) {
            return -1;
        }
        boolean[][] rows = shapes.get(shape);
        if (w == 0) {
            return rows[0].length;
        }
        if (w == 1) {
            return rows.length;
        }
        if (w == 3) {
            return stamped.get(shape) ? 1 : 0;
        }
        int blacks = 0;
        for (boolean[] row : rows) {
            for (boolean dot : row) {
                blacks += dot ? 1 : 0;
            }
        }
        return blacks;
    }

    int look(int which) {
        int[] all = {width, height, band, marks, bytes, shapes.size(), shapeRows, kind, value,
            sourceOpaque ? 1 : 0, inkOpaque ? 1 : 0, turn};
        return which >= 0 && which < all.length ? all[which] : -1;
    }
}
