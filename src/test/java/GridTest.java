import java.util.ArrayList;
import java.util.List;
import java.util.Random;

/** Promises 1 and 10 to 13: grids, cages and lines. */
public final class GridTest {
    private static final Check CHECK = new Check("GridTest");
    private static final int[] EXTREMES = {Integer.MIN_VALUE, -1, Integer.MAX_VALUE};

    public static void main(String[] args) {
        newObjectHasOneCell();
        gridLooksAtItsSides();
        gridSetsAllCagesBack();
        cageLooksAtItsArguments();
        cagesAreNumberedByRows();
        sameCagesApartAreOneKind();
        linesGoThroughCrossings();
        drawnLooksAtItsArguments();
        mostLines();
        linesAreThoseOfThePieces();
        CHECK.end();
    }

    private static void dueLines(PageForms forms, String what, int[]... lines) {
        CHECK.due(what + ": lines()", forms.lines(), lines.length);
        for (int k = 0; k < lines.length; k++) {
            for (int part = 0; part < 5; part++) {
                CHECK.due(what + ": drawn(" + k + ", " + part + ")", forms.drawn(k, part),
                    lines[k][part]);
            }
        }
        for (int part = 0; part < 5; part++) {
            CHECK.due(what + ": drawn behind the last", forms.drawn(lines.length, part), -1);
        }
    }

    private static int[] line(int x1, int y1, int x2, int y2, int thick) {
        return new int[] {x1, y1, x2, y2, thick};
    }

    private static void dueOneCell(PageForms forms, String what) {
        dueLines(forms, what, line(0, 0, 1, 0, 1), line(0, 1, 1, 1, 1), line(0, 0, 0, 1, 1),
            line(1, 0, 1, 1, 1));
    }

    private static void newObjectHasOneCell() {
        PageForms forms = new PageForms();
        dueOneCell(forms, "new");
        CHECK.due("cage(1, 0)", forms.cage(1, 0), false);
        CHECK.due("cage(0, 5)", forms.cage(0, 5), true);
        dueOneCell(forms, "another cage");
    }

    private static void gridLooksAtItsSides() {
        PageForms forms = new PageForms();
        CHECK.due("grid(2, 1)", forms.grid(2, 1), true);
        CHECK.due("cage(1, 3)", forms.cage(1, 3), true);
        int[] wrong = {Integer.MIN_VALUE, -1, 0, 9, 65536, Integer.MAX_VALUE};
        for (int side : wrong) {
            CHECK.due("grid(" + side + ", 1)", forms.grid(side, 1), false);
            CHECK.due("grid(1, " + side + ")", forms.grid(1, side), false);
            CHECK.due("grid(" + side + ", " + side + ")", forms.grid(side, side), false);
        }
        dueLines(forms, "2 by 1 stays", line(0, 0, 2, 0, 1), line(0, 1, 2, 1, 1),
            line(0, 0, 0, 1, 1), line(1, 0, 1, 1, 1), line(2, 0, 2, 1, 1));
        for (int width = 1; width <= 8; width++) {
            for (int height = 1; height <= 8; height++) {
                CHECK.due("grid(" + width + ", " + height + ")", forms.grid(width, height), true);
                CHECK.due("lines of one kind", forms.lines(), width + height + 2);
                CHECK.due("its last cell", forms.cage(width * height - 1, 0), true);
                CHECK.due("no cell behind", forms.cage(width * height, 0), false);
            }
        }
    }

    private static void gridSetsAllCagesBack() {
        PageForms forms = new PageForms();
        CHECK.due("grid(8, 8)", forms.grid(8, 8), true);
        for (int cell = 0; cell < 64; cell += 3) {
            CHECK.due("cage", forms.cage(cell, 1 + cell % 9), true);
        }
        CHECK.due("grid(8, 8) again", forms.grid(8, 8), true);
        CHECK.due("all cages 0", forms.lines(), 18);
        CHECK.due("cage(63, 9)", forms.cage(63, 9), true);
        CHECK.due("grid(1, 1)", forms.grid(1, 1), true);
        dueOneCell(forms, "1 by 1 again");
        CHECK.due("grid(8, 8) once more", forms.grid(8, 8), true);
        CHECK.due("all cages 0", forms.lines(), 18);
    }

    private static void cageLooksAtItsArguments() {
        PageForms forms = new PageForms();
        CHECK.due("grid(2, 2)", forms.grid(2, 2), true);
        for (int wrong : EXTREMES) {
            CHECK.due("cage(" + wrong + ", 1)", forms.cage(wrong, 1), false);
            CHECK.due("cage(0, " + wrong + ")", forms.cage(0, wrong), false);
        }
        CHECK.due("cage(4, 1)", forms.cage(4, 1), false);
        CHECK.due("cage(0, 10)", forms.cage(0, 10), false);
        CHECK.due("nothing was done", forms.lines(), 6);
        CHECK.due("cage(0, 9)", forms.cage(0, 9), true);
        CHECK.due("cage(3, 9)", forms.cage(3, 9), true);
        CHECK.due("cage(3, 10)", forms.cage(3, 10), false);
        CHECK.due("cages in a cross", forms.lines(), 6);
        CHECK.due("cage(3, 0)", forms.cage(3, 0), true);
        CHECK.due("one corner", forms.lines(), 8);
        CHECK.due("cage(0, 0)", forms.cage(0, 0), true);
        CHECK.due("none", forms.lines(), 6);
    }

    private static void cagesAreNumberedByRows() {
        PageForms forms = new PageForms();
        CHECK.due("grid(3, 2)", forms.grid(3, 2), true);
        CHECK.due("cage(3, 1)", forms.cage(3, 1), true);
        dueLines(forms, "cell 3 of 3 by 2 is (0, 1)", line(0, 0, 3, 0, 1), line(0, 1, 1, 1, 1),
            line(1, 1, 3, 1, 0), line(0, 2, 3, 2, 1), line(0, 0, 0, 2, 1), line(1, 0, 1, 1, 0),
            line(1, 1, 1, 2, 1), line(2, 0, 2, 2, 0), line(3, 0, 3, 2, 1));
    }

    private static void sameCagesApartAreOneKind() {
        PageForms forms = new PageForms();
        CHECK.due("grid(3, 1)", forms.grid(3, 1), true);
        CHECK.due("cage(1, 2)", forms.cage(1, 2), true);
        dueLines(forms, "0 2 0", line(0, 0, 3, 0, 1), line(0, 1, 3, 1, 1), line(0, 0, 0, 1, 1),
            line(1, 0, 1, 1, 1), line(2, 0, 2, 1, 1), line(3, 0, 3, 1, 1));
        CHECK.due("cage(2, 3)", forms.cage(2, 3), true);
        CHECK.due("grid(1, 3)", forms.grid(1, 3), true);
        CHECK.due("cage(2, 3)", forms.cage(2, 3), true);
        dueLines(forms, "0 0 3 down", line(0, 0, 1, 0, 1), line(0, 1, 1, 1, 0),
            line(0, 2, 1, 2, 1), line(0, 3, 1, 3, 1), line(0, 0, 0, 3, 1), line(1, 0, 1, 3, 1));
    }

    private static void linesGoThroughCrossings() {
        PageForms forms = new PageForms();
        CHECK.due("grid(2, 2)", forms.grid(2, 2), true);
        for (int cell = 0; cell < 4; cell++) {
            CHECK.due("cage", forms.cage(cell, cell), true);
        }
        dueLines(forms, "four cages", line(0, 0, 2, 0, 1), line(0, 1, 2, 1, 1),
            line(0, 2, 2, 2, 1), line(0, 0, 0, 2, 1), line(1, 0, 1, 2, 1), line(2, 0, 2, 2, 1));
    }

    private static void drawnLooksAtItsArguments() {
        PageForms forms = new PageForms();
        for (int wrong : EXTREMES) {
            CHECK.due("drawn(" + wrong + ", 0)", forms.drawn(wrong, 0), -1);
            CHECK.due("drawn(" + wrong + ", 4)", forms.drawn(wrong, 4), -1);
            CHECK.due("drawn(0, " + wrong + ")", forms.drawn(0, wrong), -1);
            CHECK.due("drawn of both", forms.drawn(wrong, wrong), -1);
        }
        CHECK.due("drawn(0, 5)", forms.drawn(0, 5), -1);
        CHECK.due("drawn(4, 0)", forms.drawn(4, 0), -1);
        CHECK.due("drawn(3, 0)", forms.drawn(3, 0), 1);
    }

    private static void mostLines() {
        PageForms forms = new PageForms();
        CHECK.due("grid(8, 8)", forms.grid(8, 8), true);
        // Pieces of both kinds take turns in all seven inner rows of either way.
        for (int cell = 0; cell < 64; cell++) {
            CHECK.due("cage", forms.cage(cell, cell % 8 * (cell / 8) % 2), true);
        }
        int lines = 2 * (7 * 8 + 2);
        CHECK.due("lines", forms.lines(), lines);
        CHECK.due("the last line's x1", forms.drawn(lines - 1, 0), 8);
        CHECK.due("the last line's y2", forms.drawn(lines - 1, 3), 8);
        CHECK.due("none behind", forms.drawn(lines, 0), -1);
    }

    private static void linesAreThoseOfThePieces() {
        Random random = new Random(11);
        for (int round = 0; round < 400; round++) {
            int width = 1 + random.nextInt(8);
            int height = 1 + random.nextInt(8);
            int kinds = 1 + random.nextInt(10);
            int[][] cages = new int[height][width];
            PageForms forms = new PageForms();
            CHECK.due("grid", forms.grid(width, height), true);
            for (int cell = 0; cell < width * height; cell++) {
                cages[cell / width][cell % width] = random.nextInt(kinds);
                CHECK.due("cage", forms.cage(cell, cages[cell / width][cell % width]), true);
            }
            duePieces(forms, cages, width, height);
        }
    }

    /** Begins with each piece as a line of its own and joins neighbours while two are of a kind. */
    private static void duePieces(PageForms forms, int[][] cages, int width, int height) {
        List<int[]> lines = new ArrayList<>();
        for (int y = 0; y <= height; y++) {
            for (int x = 0; x < width; x++) {
                boolean thick = y == 0 || y == height || cages[y - 1][x] != cages[y][x];
                lines.add(line(x, y, x + 1, y, thick ? 1 : 0));
            }
        }
        for (int x = 0; x <= width; x++) {
            for (int y = 0; y < height; y++) {
                boolean thick = x == 0 || x == width || cages[y][x - 1] != cages[y][x];
                lines.add(line(x, y, x, y + 1, thick ? 1 : 0));
            }
        }
        for (int i = lines.size() - 1; i > 0; i--) {
            int[] before = lines.get(i - 1);
            int[] behind = lines.get(i);
            if (areOneLine(before, behind)) {
                before[2] = behind[2];
                before[3] = behind[3];
                lines.remove(i);
            }
        }
        dueLines(forms, width + " by " + height, lines.toArray(new int[0][]));
    }

    private static boolean areOneLine(int[] before, int[] behind) {
        boolean bothAcross = before[1] == before[3] && behind[1] == behind[3];
        boolean bothStand = before[0] == before[2] && behind[0] == behind[2];
        return before[4] == behind[4] && before[2] == behind[0] && before[3] == behind[1]
            && (bothAcross || bothStand);
    }
}
