import java.util.Random;

/** Promises 1 and 14 to 20: the code and its squares. */
public final class CodeTest {
    private static final Check CHECK = new Check("CodeTest");

    public static void main(String[] args) {
        newObjectHasNoCode();
        codeLooksAtTheByte();
        codeTakesTwelve();
        squaresOfEachByte();
        codeMakesAllSquaresGood();
        refusedBytesLeaveTheSquares();
        rowsCountsTheLastRow();
        darkAndSpoilLookForTheirSquare();
        readMendsEachSquare();
        readOfTwoWrongSquares();
        readOfThreeInACorner();
        byteAtTellsTheSquares();
        wipeForgetsAll();
        readsAreThoseOfAllTried();
        CHECK.end();
    }

    private static PageForms with(int... bytes) {
        PageForms forms = new PageForms();
        for (int b : bytes) {
            CHECK.due("code(" + b + ")", forms.code(b), true);
        }
        return forms;
    }

    private static void dueSquares(PageForms forms, String what, int... bytes) {
        CHECK.due(what + ": rows()", forms.rows(), bytes.length == 0 ? 0 : bytes.length + 1);
        boolean[] columns = new boolean[9];
        for (int y = 0; y < bytes.length; y++) {
            boolean odd = false;
            for (int x = 0; x < 8; x++) {
                boolean dark = bytes[y] / (1 << (7 - x)) % 2 == 1;
                CHECK.due(what + ": dark(" + x + ", " + y + ")", forms.dark(x, y), dark);
                odd ^= dark;
                columns[x] ^= dark;
            }
            CHECK.due(what + ": dark(8, " + y + ")", forms.dark(8, y), odd);
            columns[8] ^= odd;
            CHECK.due(what + ": byteAt(" + y + ")", forms.byteAt(y), bytes[y]);
        }
        for (int x = 0; x < 9 && bytes.length > 0; x++) {
            CHECK.due(what + ": last row, " + x, forms.dark(x, bytes.length), columns[x]);
        }
        CHECK.due(what + ": byteAt behind the last", forms.byteAt(bytes.length), -1);
    }

    private static void dueNoCode(PageForms forms, String what) {
        dueSquares(forms, what);
        CHECK.due(what + ": read()", forms.read(), -1);
        for (int y = 0; y < 14; y++) {
            for (int x = 0; x < 10; x++) {
                CHECK.due(what + ": dark", forms.dark(x, y), false);
                CHECK.due(what + ": spoil", forms.spoil(x, y), false);
            }
            CHECK.due(what + ": byteAt", forms.byteAt(y), -1);
        }
    }

    private static void newObjectHasNoCode() {
        dueNoCode(new PageForms(), "new");
    }

    private static void codeLooksAtTheByte() {
        PageForms forms = new PageForms();
        int[] wrong = {Integer.MIN_VALUE, -128, -1, 256, 257, Integer.MAX_VALUE};
        for (int b : wrong) {
            CHECK.due("code(" + b + ")", forms.code(b), false);
        }
        dueNoCode(forms, "all refused");
        CHECK.due("code(0)", forms.code(0), true);
        CHECK.due("code(255)", forms.code(255), true);
        dueSquares(forms, "0 and 255", 0, 255);
    }

    private static void codeTakesTwelve() {
        PageForms forms = new PageForms();
        int[] bytes = new int[12];
        for (int i = 0; i < 12; i++) {
            bytes[i] = i * 23 % 256;
            CHECK.due("code " + i, forms.code(bytes[i]), true);
        }
        CHECK.due("code 12", forms.code(1), false);
        CHECK.due("code 12 again", forms.code(1), false);
        dueSquares(forms, "twelve", bytes);
        CHECK.due("read of twelve", forms.read(), 0);
        forms.wipe();
        CHECK.due("code behind wipe", forms.code(1), true);
    }

    private static void squaresOfEachByte() {
        for (int b = 0; b < 256; b++) {
            PageForms forms = with(b);
            dueSquares(forms, "byte " + b, b);
            CHECK.due("read of byte " + b, forms.read(), 0);
        }
        dueSquares(with(1, 2, 4), "corner is dark", 1, 2, 4);
    }

    private static void codeMakesAllSquaresGood() {
        PageForms forms = with(165, 7);
        CHECK.due("spoil a bit", forms.spoil(0, 0), true);
        CHECK.due("spoil column 8", forms.spoil(8, 1), true);
        CHECK.due("spoil the last row", forms.spoil(4, 2), true);
        CHECK.due("code(9)", forms.code(9), true);
        dueSquares(forms, "behind spoilt ones", 165, 7, 9);
        CHECK.due("read behind", forms.read(), 0);
    }

    private static void refusedBytesLeaveTheSquares() {
        PageForms forms = with(165);
        CHECK.due("spoil", forms.spoil(0, 0), true);
        CHECK.due("code(256)", forms.code(256), false);
        CHECK.due("still spoilt", forms.byteAt(0), 37);
        PageForms full = with(1, 2, 3, 4, 5, 6, 7, 8, 9, 10, 11, 12);
        CHECK.due("spoil", full.spoil(0, 0), true);
        CHECK.due("code of a full one", full.code(1), false);
        CHECK.due("still spoilt", full.byteAt(0), 129);
    }

    private static void rowsCountsTheLastRow() {
        PageForms forms = new PageForms();
        CHECK.due("rows of none", forms.rows(), 0);
        for (int i = 0; i < 12; i++) {
            CHECK.due("code", forms.code(0), true);
            CHECK.due("rows of " + (i + 1), forms.rows(), i + 2);
        }
    }

    private static void darkAndSpoilLookForTheirSquare() {
        PageForms forms = with(255, 255, 255, 255, 255);
        int[] wrongX = {Integer.MIN_VALUE, -1, 9, 32, 40, Integer.MAX_VALUE};
        for (int x : wrongX) {
            CHECK.due("dark(" + x + ", 0)", forms.dark(x, 0), false);
            CHECK.due("spoil(" + x + ", 0)", forms.spoil(x, 0), false);
        }
        int[] wrongY = {Integer.MIN_VALUE, -1, 6, 12, 13, Integer.MAX_VALUE};
        for (int y : wrongY) {
            CHECK.due("dark(0, " + y + ")", forms.dark(0, y), false);
            CHECK.due("spoil(0, " + y + ")", forms.spoil(0, y), false);
        }
        dueSquares(forms, "nothing was spoilt", 255, 255, 255, 255, 255);
        for (int y = 0; y < 6; y++) {
            for (int x = 0; x < 9; x++) {
                boolean before = forms.dark(x, y);
                CHECK.due("spoil", forms.spoil(x, y), true);
                CHECK.due("turned over", forms.dark(x, y), !before);
                CHECK.due("spoil again", forms.spoil(x, y), true);
                CHECK.due("turned back", forms.dark(x, y), before);
            }
        }
        dueSquares(forms, "all turned back", 255, 255, 255, 255, 255);
    }

    private static void readMendsEachSquare() {
        int[] bytes = {1, 0, 200, 255, 17, 90, 3, 128, 64, 33, 7, 250};
        for (int n = 1; n <= 12; n++) {
            int[] first = java.util.Arrays.copyOf(bytes, n);
            PageForms forms = with(first);
            for (int y = 0; y <= n; y++) {
                for (int x = 0; x < 9; x++) {
                    CHECK.due("spoil", forms.spoil(x, y), true);
                    CHECK.due("read mends (" + x + ", " + y + ")", forms.read(), 1);
                    CHECK.due("and all is even", forms.read(), 0);
                }
            }
            dueSquares(forms, "all mended", first);
        }
    }

    private static void readOfTwoWrongSquares() {
        PageForms forms = with(165, 0);
        int[][] pairs = {{0, 0, 1, 0}, {0, 0, 0, 1}, {0, 0, 1, 1}, {8, 0, 8, 2}, {7, 2, 8, 2}};
        for (int[] pair : pairs) {
            forms.spoil(pair[0], pair[1]);
            forms.spoil(pair[2], pair[3]);
            CHECK.due("read of two", forms.read(), -1);
            CHECK.due("read of two again", forms.read(), -1);
            forms.spoil(pair[0], pair[1]);
            forms.spoil(pair[2], pair[3]);
            dueSquares(forms, "nothing was done", 165, 0);
        }
    }

    private static void readOfThreeInACorner() {
        PageForms forms = with(0, 0);
        forms.spoil(0, 0);
        forms.spoil(1, 0);
        forms.spoil(0, 1);
        CHECK.due("three of a rectangle", forms.read(), 1);
        CHECK.due("the fourth is turned", forms.dark(1, 1), true);
        CHECK.due("byteAt(0)", forms.byteAt(0), 192);
        CHECK.due("byteAt(1)", forms.byteAt(1), 192);
        CHECK.due("even and wrong", forms.read(), 0);
        PageForms inLine = with(0, 0);
        inLine.spoil(0, 0);
        inLine.spoil(1, 0);
        inLine.spoil(2, 0);
        CHECK.due("one row and three columns", inLine.read(), -1);
        CHECK.due("nothing was done", inLine.byteAt(0), 224);
    }

    private static void byteAtTellsTheSquares() {
        PageForms forms = with(0, 255);
        for (int x = 0; x < 8; x++) {
            forms.spoil(x, 0);
            CHECK.due("byteAt(0)", forms.byteAt(0), 128 >> x);
            forms.spoil(x, 0);
        }
        forms.spoil(8, 0);
        forms.spoil(3, 2);
        CHECK.due("column 8 is not in it", forms.byteAt(0), 0);
        CHECK.due("byteAt(1)", forms.byteAt(1), 255);
        int[] wrong = {Integer.MIN_VALUE, -1, 2, 3, 12, 13, Integer.MAX_VALUE};
        for (int i : wrong) {
            CHECK.due("byteAt(" + i + ")", forms.byteAt(i), -1);
        }
    }

    private static void wipeForgetsAll() {
        PageForms forms = with(255, 128, 3);
        forms.spoil(0, 0);
        forms.box(4);
        forms.unit(97);
        forms.broken(3);
        forms.grid(2, 2);
        forms.wipe();
        dueNoCode(forms, "wiped");
        CHECK.due("boxes stay", forms.pages(4, 0), 1);
        CHECK.due("the break stays", forms.rest(), 4);
        CHECK.due("the text stays", forms.broken(1), 1);
        CHECK.due("the grid stays", forms.lines(), 6);
        CHECK.due("code(1)", forms.code(1), true);
        dueSquares(forms, "one byte anew", 1);
        CHECK.due("read anew", forms.read(), 0);
        forms.wipe();
        forms.wipe();
        dueNoCode(forms, "wiped twice");
    }

    private static void readsAreThoseOfAllTried() {
        Random random = new Random(3);
        for (int round = 0; round < 300; round++) {
            int n = 1 + random.nextInt(12);
            PageForms forms = new PageForms();
            for (int i = 0; i < n; i++) {
                CHECK.due("code", forms.code(random.nextInt(256)), true);
            }
            int wrong = random.nextInt(6);
            for (int i = 0; i < wrong; i++) {
                CHECK.due("spoil", forms.spoil(random.nextInt(9), random.nextInt(n + 1)), true);
            }
            dueAsTried(forms, n);
        }
    }

    private static void dueAsTried(PageForms forms, int n) {
        boolean[][] squares = new boolean[n + 1][9];
        for (int y = 0; y <= n; y++) {
            for (int x = 0; x < 9; x++) {
                squares[y][x] = forms.dark(x, y);
            }
        }
        int want = isEven(squares) ? 0 : turnOneOver(squares) ? 1 : -1;
        CHECK.due("read as tried", forms.read(), want);
        for (int y = 0; y <= n; y++) {
            for (int x = 0; x < 9; x++) {
                CHECK.due("square behind read", forms.dark(x, y), squares[y][x]);
            }
        }
    }

    private static boolean turnOneOver(boolean[][] squares) {
        for (int y = 0; y < squares.length; y++) {
            for (int x = 0; x < 9; x++) {
                squares[y][x] = !squares[y][x];
                if (isEven(squares)) {
                    return true;
                }
                squares[y][x] = !squares[y][x];
            }
        }
        return false;
    }

    private static boolean isEven(boolean[][] squares) {
        boolean[] columns = new boolean[9];
        boolean even = true;
        for (boolean[] row : squares) {
            boolean odd = false;
            for (int x = 0; x < 9; x++) {
                odd ^= row[x];
                columns[x] ^= row[x];
            }
            even &= !odd;
        }
        for (boolean odd : columns) {
            even &= !odd;
        }
        return even;
    }
}
