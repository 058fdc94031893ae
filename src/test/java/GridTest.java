import java.util.ArrayList;
import java.util.List;
import java.util.Random;

/** Promises 1 and 10 to 13: grids, cages and lines, in the document's order. */
public final class GridTest {
    private static final Check CHECK = new Check("GridTest");
    private static final int[] SIDES_TOO_SMALL = {Integer.MIN_VALUE, -8, -1, 0};
    private static final int[] SIDES_TOO_LARGE = {9, 10, 64, 257, 65537, Integer.MAX_VALUE};
    private static final int[] BELOW_ZERO = {Integer.MIN_VALUE, Integer.MIN_VALUE + 1, -2, -1};

    public static void main(String[] args) {
        newObjectHasOneCell();

        gridTakesSides1To8();
        gridRefusesSidesTooSmall();
        gridRefusesSidesTooLarge();
        gridRefusesOneWrongSideOfTwo();
        refusedGridLeavesTheSize();
        refusedGridLeavesTheCages();
        gridSetsAllCagesBack();
        smallerGridLeavesNoCages();

        cageTakesTheFirstAndLastCell();
        cageTakes0And9();
        cageRefusesCellsTooSmall();
        cageRefusesCellsTooLarge();
        cageRefusesCagesTooSmall();
        cageRefusesCagesTooLarge();
        refusedCageLeavesTheCages();
        cageMayBeSetAgain();

        cellsAreNumberedByRows();
        edgeIsThickRoundOneCage();
        sameCagesApartAreOneKind();
        piecesOfAKindAreOneLine();
        linesGoThroughCrossings();

        fewestLines();
        mostLines();

        drawnRefusesOtherWhats();
        drawnBelowZero();
        drawnBehindTheLast();
        drawnIsOfTheGridAsItIs();
        linesAreThoseOfThePieces();
        CHECK.end();
    }

    private static PageForms with(int width, int height, int... cages) {
        PageForms forms = new PageForms();
        CHECK.due("grid(" + width + ", " + height + ")", forms.grid(width, height), true);
        for (int cell = 0; cell < cages.length; cell++) {
            CHECK.due("cage(" + cell + ", " + cages[cell] + ")", forms.cage(cell, cages[cell]),
                true);
        }
        return forms;
    }

    private static void dueLines(PageForms forms, String what, int[]... lines) {
        CHECK.due(what + ": lines()", forms.lines(), lines.length);
        for (int k = 0; k < lines.length; k++) {
            dueLine(forms, what, k, lines[k]);
        }
        for (int part = 0; part < 5; part++) {
            CHECK.due(what + ": drawn behind the last", forms.drawn(lines.length, part), -1);
        }
    }

    private static void dueLine(PageForms forms, String what, int k, int[] line) {
        for (int part = 0; part < 5; part++) {
            String call = what + ": drawn(" + k + ", " + part + ")";
            CHECK.due(call, forms.drawn(k, part), line[part]);
        }
    }

    private static int[] line(int x1, int y1, int x2, int y2, int thick) {
        return new int[] {x1, y1, x2, y2, thick};
    }

    private static void dueOneCell(PageForms forms, String what) {
        dueLines(forms, what, line(0, 0, 1, 0, 1), line(0, 1, 1, 1, 1), line(0, 0, 0, 1, 1),
            line(1, 0, 1, 1, 1));
    }

    private static void dueTwoCages(PageForms forms, String what) {
        dueLines(forms, what, line(0, 0, 2, 0, 1), line(0, 1, 2, 1, 1), line(0, 0, 0, 1, 1),
            line(1, 0, 1, 1, 1), line(2, 0, 2, 1, 1));
    }

    // Promise 1

    private static void newObjectHasOneCell() {
        CHECK.by("1: a grid of 1 by 1");
        PageForms forms = new PageForms();
        dueOneCell(forms, "new");
        CHECK.due("cage(1, 0)", forms.cage(1, 0), false);
        CHECK.due("cage(0, 5)", forms.cage(0, 5), true);
        dueOneCell(forms, "another cage");
    }

    // Promise 10

    private static void gridTakesSides1To8() {
        CHECK.by("10: The grid becomes one of W by H (1 to 8): true");
        PageForms forms = new PageForms();
        for (int width = 1; width <= 8; width++) {
            for (int height = 1; height <= 8; height++) {
                CHECK.due("grid(" + width + ", " + height + ")", forms.grid(width, height), true);
                CHECK.due("lines of one kind", forms.lines(), width + height + 2);
                CHECK.due("the last goes to x", forms.drawn(width + height + 1, 2), width);
                CHECK.due("the last goes to y", forms.drawn(width + height + 1, 3), height);
                CHECK.due("its last cell", forms.cage(width * height - 1, 0), true);
                CHECK.due("no cell behind", forms.cage(width * height, 0), false);
            }
        }
    }

    private static void gridRefusesSidesTooSmall() {
        CHECK.by("10: false when they are not so, too small");
        PageForms forms = new PageForms();
        for (int side : SIDES_TOO_SMALL) {
            CHECK.due("grid(" + side + ", 1)", forms.grid(side, 1), false);
            CHECK.due("grid(1, " + side + ")", forms.grid(1, side), false);
            CHECK.due("grid(" + side + ", " + side + ")", forms.grid(side, side), false);
        }
    }

    private static void gridRefusesSidesTooLarge() {
        CHECK.by("10: false when they are not so, too large");
        PageForms forms = new PageForms();
        for (int side : SIDES_TOO_LARGE) {
            CHECK.due("grid(" + side + ", 1)", forms.grid(side, 1), false);
            CHECK.due("grid(1, " + side + ")", forms.grid(1, side), false);
            CHECK.due("grid(" + side + ", " + side + ")", forms.grid(side, side), false);
        }
    }

    private static void gridRefusesOneWrongSideOfTwo() {
        CHECK.by("10: false when they are not so, one of them");
        PageForms forms = new PageForms();
        CHECK.due("grid(8, 9)", forms.grid(8, 9), false);
        CHECK.due("grid(9, 8)", forms.grid(9, 8), false);
        CHECK.due("grid(8, 0)", forms.grid(8, 0), false);
        CHECK.due("grid(0, 8)", forms.grid(0, 8), false);
        CHECK.due("grid(-1, -1)", forms.grid(-1, -1), false);
        CHECK.due("grid(0, 9)", forms.grid(0, 9), false);
        CHECK.due("grid(65536, 65536)", forms.grid(65536, 65536), false);
    }

    private static void refusedGridLeavesTheSize() {
        CHECK.by("10: false, doing nothing: the grid's size stays");
        int[] wrong = {Integer.MIN_VALUE, -1, 0, 9, Integer.MAX_VALUE};
        for (int side : wrong) {
            PageForms forms = with(2, 1, 2, 3);
            CHECK.due("grid(" + side + ", 4)", forms.grid(side, 4), false);
            CHECK.due("grid(4, " + side + ")", forms.grid(4, side), false);
            CHECK.due("no cell more", forms.cage(2, 0), false);
            dueTwoCages(forms, "2 by 1 stays");
        }
    }

    private static void refusedGridLeavesTheCages() {
        CHECK.by("10: false, doing nothing: the cages stay");
        int[][] wrong = {{2, 0}, {0, 1}, {2, 9}, {9, 1}, {0, 0}, {9, 9}};
        for (int[] sides : wrong) {
            PageForms forms = with(2, 1, 2, 3);
            CHECK.due("grid", forms.grid(sides[0], sides[1]), false);
            dueCages2And3(forms);
        }
    }

    private static void dueCages2And3(PageForms forms) {
        dueTwoCages(forms, "the cages stay");
        CHECK.due("cage(1, 2)", forms.cage(1, 2), true);
        CHECK.due("cell 0 is still 2", forms.drawn(3, 4), 0);
        CHECK.due("cage(1, 3)", forms.cage(1, 3), true);
        CHECK.due("cage(0, 3)", forms.cage(0, 3), true);
        CHECK.due("cell 1 is 3 again", forms.drawn(3, 4), 0);
        CHECK.due("cage(0, 2)", forms.cage(0, 2), true);
    }

    private static void gridSetsAllCagesBack() {
        CHECK.by("10: The grid becomes one of W by H, all cages 0");
        PageForms forms = new PageForms();
        CHECK.due("grid(8, 8)", forms.grid(8, 8), true);
        for (int cell = 0; cell < 64; cell++) {
            CHECK.due("cage", forms.cage(cell, 1 + cell % 9), true);
        }
        CHECK.due("grid(8, 8) again", forms.grid(8, 8), true);
        CHECK.due("all cages are alike", forms.lines(), 18);
        // A cage that differed from 0 would show beside one that is set to 0 now.
        for (int cell = 0; cell < 64; cell++) {
            CHECK.due("cage(" + cell + ", 0)", forms.cage(cell, 0), true);
            CHECK.due("0 beside the others", forms.lines(), 18);
        }
    }

    private static void smallerGridLeavesNoCages() {
        CHECK.by("10: all cages 0, of cells too that a smaller grid has not");
        PageForms forms = with(8, 8);
        CHECK.due("cage(63, 9)", forms.cage(63, 9), true);
        CHECK.due("cage(1, 9)", forms.cage(1, 9), true);
        CHECK.due("grid(1, 1)", forms.grid(1, 1), true);
        dueOneCell(forms, "1 by 1");
        CHECK.due("grid(8, 8)", forms.grid(8, 8), true);
        CHECK.due("all cages 0", forms.lines(), 18);
        CHECK.due("none is thick", forms.drawn(1, 4), 0);
    }

    // Promise 11

    private static void cageTakesTheFirstAndLastCell() {
        CHECK.by("11: The cage of a cell: true");
        PageForms forms = with(3, 2);
        for (int cell = 0; cell < 6; cell++) {
            CHECK.due("cage(" + cell + ", 1)", forms.cage(cell, 1), true);
        }
        CHECK.due("all are 1", forms.lines(), 7);
        PageForms most = with(8, 8);
        CHECK.due("cage(63, 1)", most.cage(63, 1), true);
        CHECK.due("its corner shows", most.lines(), 20);
    }

    private static void cageTakes0And9() {
        CHECK.by("11: The cage of a cell, 0 to 9");
        PageForms forms = with(2, 1);
        for (int cage = 0; cage <= 9; cage++) {
            CHECK.due("cage(0, " + cage + ")", forms.cage(0, cage), true);
            CHECK.due("beside a 0", forms.drawn(3, 4), cage == 0 ? 0 : 1);
        }
        CHECK.due("cage(1, 9)", forms.cage(1, 9), true);
        CHECK.due("beside a 9", forms.drawn(3, 4), 0);
    }

    private static void cageRefusesCellsTooSmall() {
        CHECK.by("11: false when there is no such cell, too small");
        PageForms forms = with(2, 2);
        for (int cell : BELOW_ZERO) {
            CHECK.due("cage(" + cell + ", 1)", forms.cage(cell, 1), false);
            CHECK.due("cage(" + cell + ", 0)", forms.cage(cell, 0), false);
        }
    }

    private static void cageRefusesCellsTooLarge() {
        CHECK.by("11: false when there is no such cell, too large");
        PageForms forms = with(3, 2);
        int[] large = {6, 7, 8, 9, 63, 64, 65, 256, Integer.MAX_VALUE - 1, Integer.MAX_VALUE};
        for (int cell : large) {
            CHECK.due("cage(" + cell + ", 1)", forms.cage(cell, 1), false);
        }
        PageForms most = with(8, 8);
        CHECK.due("cage(64, 1)", most.cage(64, 1), false);
        CHECK.due("cage(65, 1)", most.cage(65, 1), false);
        CHECK.due("cage(1, 1) of one cell", new PageForms().cage(1, 1), false);
    }

    private static void cageRefusesCagesTooSmall() {
        CHECK.by("11: false when there is no such cage, too small");
        PageForms forms = with(2, 2);
        for (int cage : BELOW_ZERO) {
            CHECK.due("cage(0, " + cage + ")", forms.cage(0, cage), false);
            CHECK.due("cage(3, " + cage + ")", forms.cage(3, cage), false);
        }
    }

    private static void cageRefusesCagesTooLarge() {
        CHECK.by("11: false when there is no such cage, too large");
        PageForms forms = with(2, 2);
        int[] large = {10, 11, 16, 256, 65536, Integer.MAX_VALUE};
        for (int cage : large) {
            CHECK.due("cage(0, " + cage + ")", forms.cage(0, cage), false);
            CHECK.due("cage(3, " + cage + ")", forms.cage(3, cage), false);
        }
        CHECK.due("cage(4, 10)", forms.cage(4, 10), false);
        CHECK.due("cage(-1, -1)", forms.cage(-1, -1), false);
    }

    private static void refusedCageLeavesTheCages() {
        CHECK.by("11: false, doing nothing, when there is no such cell or cage");
        PageForms forms = with(2, 1, 2, 3);
        int[] wrongCells = {Integer.MIN_VALUE, -1, 2, 63, 64, Integer.MAX_VALUE};
        for (int cell : wrongCells) {
            CHECK.due("cage(" + cell + ", 3)", forms.cage(cell, 3), false);
            dueTwoCages(forms, "the cages stay");
        }
        int[] wrongCages = {Integer.MIN_VALUE, -1, 10, 256, Integer.MAX_VALUE};
        for (int cage : wrongCages) {
            CHECK.due("cage(0, " + cage + ")", forms.cage(0, cage), false);
            CHECK.due("cage(1, " + cage + ")", forms.cage(1, cage), false);
        }
        dueCages2And3(forms);
        PageForms alike = with(2, 1);
        CHECK.due("cage(1, 10)", alike.cage(1, 10), false);
        CHECK.due("cage(1, -1)", alike.cage(1, -1), false);
        CHECK.due("the cages are still alike", alike.drawn(3, 4), 0);
    }

    private static void cageMayBeSetAgain() {
        CHECK.by("11: The cage of a cell, set anew");
        PageForms forms = with(2, 2, 9, 0, 0, 9);
        CHECK.due("cages in a cross", forms.lines(), 6);
        CHECK.due("cage(3, 0)", forms.cage(3, 0), true);
        CHECK.due("one corner", forms.lines(), 8);
        CHECK.due("cage(0, 0)", forms.cage(0, 0), true);
        CHECK.due("none", forms.lines(), 6);
    }

    // Terms

    private static void cellsAreNumberedByRows() {
        CHECK.by("Terms: CELLS (x, y), numbered x + W y");
        PageForms forms = with(3, 2);
        CHECK.due("cage(3, 1)", forms.cage(3, 1), true);
        dueLines(forms, "cell 3 of 3 by 2 is (0, 1)", line(0, 0, 3, 0, 1), line(0, 1, 1, 1, 1),
            line(1, 1, 3, 1, 0), line(0, 2, 3, 2, 1), line(0, 0, 0, 2, 1), line(1, 0, 1, 1, 0),
            line(1, 1, 1, 2, 1), line(2, 0, 2, 2, 0), line(3, 0, 3, 2, 1));
    }

    private static void edgeIsThickRoundOneCage() {
        CHECK.by("Terms: round the whole THICK pieces");
        dueLines(with(2, 2, 4, 4, 4, 4), "one cage", line(0, 0, 2, 0, 1), line(0, 1, 2, 1, 0),
            line(0, 2, 2, 2, 1), line(0, 0, 0, 2, 1), line(1, 0, 1, 2, 0), line(2, 0, 2, 2, 1));
    }

    private static void sameCagesApartAreOneKind() {
        CHECK.by("Terms: a THICK piece of line when their cages differ, else a THIN one");
        dueLines(with(3, 1, 0, 2, 0), "0 2 0", line(0, 0, 3, 0, 1), line(0, 1, 3, 1, 1),
            line(0, 0, 0, 1, 1), line(1, 0, 1, 1, 1), line(2, 0, 2, 1, 1), line(3, 0, 3, 1, 1));
        dueLines(with(1, 3, 0, 0, 3), "0 0 3 down", line(0, 0, 1, 0, 1), line(0, 1, 1, 1, 0),
            line(0, 2, 1, 2, 1), line(0, 3, 1, 3, 1), line(0, 0, 0, 3, 1), line(1, 0, 1, 3, 1));
    }

    private static void piecesOfAKindAreOneLine() {
        CHECK.by("Terms: LINES are as long as can be: pieces of a kind that follow each other");
        PageForms forms = with(8, 2);
        CHECK.due("cage(11, 1)", forms.cage(11, 1), true);
        dueLine(forms, "thin before", 1, line(0, 1, 3, 1, 0));
        dueLine(forms, "thick between", 2, line(3, 1, 4, 1, 1));
        dueLine(forms, "thin behind", 3, line(4, 1, 8, 1, 0));
        PageForms high = with(2, 8);
        CHECK.due("cage(15, 1)", high.cage(15, 1), true);
        CHECK.due("lines", high.lines(), 14);
        dueLine(high, "thin before", 11, line(1, 0, 1, 7, 0));
        dueLine(high, "thick behind", 12, line(1, 7, 1, 8, 1));
    }

    private static void linesGoThroughCrossings() {
        CHECK.by("Terms: LINES are as long as can be, where others cross them, too");
        dueLines(with(2, 2, 0, 1, 2, 3), "four cages", line(0, 0, 2, 0, 1), line(0, 1, 2, 1, 1),
            line(0, 2, 2, 2, 1), line(0, 0, 0, 2, 1), line(1, 0, 1, 2, 1), line(2, 0, 2, 2, 1));
    }

    // Promise 12

    private static void fewestLines() {
        CHECK.by("12: How many LINES the grid has, the fewest");
        CHECK.due("new", new PageForms().lines(), 4);
        CHECK.due("1 by 1", with(1, 1, 9).lines(), 4);
        CHECK.due("8 by 1", with(8, 1).lines(), 11);
        CHECK.due("1 by 8", with(1, 8).lines(), 11);
        CHECK.due("8 by 8", with(8, 8).lines(), 18);
    }

    private static void mostLines() {
        CHECK.by("12: How many LINES the grid has, the most");
        int[] cages = new int[64];
        // Pieces of both kinds take turns in all seven inner rows of either way.
        for (int cell = 0; cell < 64; cell++) {
            cages[cell] = cell % 8 * (cell / 8) % 2;
        }
        PageForms forms = with(8, 8, cages);
        int lines = 2 * (7 * 8 + 2);
        CHECK.due("lines", forms.lines(), lines);
        dueLine(forms, "the last", lines - 1, line(8, 0, 8, 8, 1));
        dueLine(forms, "the last within", lines - 2, line(7, 7, 7, 8, 1));
        dueLine(forms, "none behind", lines, line(-1, -1, -1, -1, -1));
    }

    // Promise 13

    private static void drawnRefusesOtherWhats() {
        CHECK.by("13: -1 for others");
        PageForms forms = with(2, 2);
        int[] others = {Integer.MIN_VALUE, -5, -2, -1, 5, 6, 256, 260, Integer.MAX_VALUE};
        for (int what : others) {
            for (int k = -1; k <= 6; k++) {
                CHECK.due("drawn(" + k + ", " + what + ")", forms.drawn(k, what), -1);
            }
        }
    }

    private static void drawnBelowZero() {
        CHECK.by("13: -1 when there is none such, too small");
        PageForms forms = with(2, 2);
        for (int k : BELOW_ZERO) {
            dueLine(forms, "below zero", k, line(-1, -1, -1, -1, -1));
        }
    }

    private static void drawnBehindTheLast() {
        CHECK.by("13: -1 when there is none such, too large");
        PageForms forms = with(2, 2);
        dueLine(forms, "the last", 5, line(2, 0, 2, 2, 1));
        int[] large = {6, 7, 18, 64, 116, 117, Integer.MAX_VALUE - 1, Integer.MAX_VALUE};
        for (int k : large) {
            dueLine(forms, "behind the last", k, line(-1, -1, -1, -1, -1));
        }
        dueLine(new PageForms(), "a new one's last", 3, line(1, 0, 1, 1, 1));
        dueLine(new PageForms(), "behind a new one's last", 4, line(-1, -1, -1, -1, -1));
    }

    private static void drawnIsOfTheGridAsItIs() {
        CHECK.by("13: Of line k, as the grid is now");
        PageForms forms = with(2, 1, 0, 3);
        dueLine(forms, "thick", 3, line(1, 0, 1, 1, 1));
        CHECK.due("cage(1, 0)", forms.cage(1, 0), true);
        dueLine(forms, "thin", 3, line(1, 0, 1, 1, 0));
        CHECK.due("grid(1, 1)", forms.grid(1, 1), true);
        dueLine(forms, "the last of one cell", 3, line(1, 0, 1, 1, 1));
        dueLine(forms, "gone", 4, line(-1, -1, -1, -1, -1));
    }

    private static void linesAreThoseOfThePieces() {
        CHECK.by("12 and 13: joined of single pieces");
        Random random = new Random(11);
        for (int round = 0; round < 400; round++) {
            int width = 1 + random.nextInt(8);
            // Fewer than 512 calls: all cages and five parts of each line.
            int height = 1 + random.nextInt(width > 6 ? 5 : 7);
            if (round % 2 == 1) {
                int side = width;
                width = height;
                height = side;
            }
            int kinds = 1 + random.nextInt(10);
            int[] cages = new int[width * height];
            for (int cell = 0; cell < cages.length; cell++) {
                cages[cell] = random.nextInt(kinds);
            }
            duePieces(with(width, height, cages), cages, width, height);
        }
    }

    /** Begins with each piece as a line of its own and joins neighbours while two are of a kind. */
    private static void duePieces(PageForms forms, int[] cages, int width, int height) {
        List<int[]> lines = new ArrayList<>();
        for (int y = 0; y <= height; y++) {
            for (int x = 0; x < width; x++) {
                boolean thick = y == 0 || y == height
                    || cages[x + width * (y - 1)] != cages[x + width * y];
                lines.add(line(x, y, x + 1, y, thick ? 1 : 0));
            }
        }
        for (int x = 0; x <= width; x++) {
            for (int y = 0; y < height; y++) {
                boolean thick = x == 0 || x == width
                    || cages[x - 1 + width * y] != cages[x + width * y];
                lines.add(line(x, y, x, y + 1, thick ? 1 : 0));
            }
        }
        for (int i = lines.size() - 1; i > 0; i--) {
            int[] before = lines.get(i - 1);
            int[] behind = lines.get(i);
            if (areOneLine(before, behind)) {
                before[2] = behind[2];
                before[3] = behind[3];
                lines.remove(i);
            }
        }
        dueLines(forms, width + " by " + height, lines.toArray(new int[0][]));
    }

    private static boolean areOneLine(int[] before, int[] behind) {
        boolean bothAcross = before[1] == before[3] && behind[1] == behind[3];
        boolean bothStand = before[0] == before[2] && behind[0] == behind[2];
        return before[4] == behind[4] && before[2] == behind[0] && before[3] == behind[1]
            && (bothAcross || bothStand);
    }
}
