import java.util.Arrays;
import java.util.Random;

/** Promises 1 and 14 to 20: the code and its squares, in the document's order. */
public final class CodeTest {
    private static final Check CHECK = new Check("CodeTest");
    private static final int[] TWELVE = {1, 0, 200, 255, 17, 90, 3, 128, 64, 33, 7, 250};
    private static final int[] BELOW_ZERO = {Integer.MIN_VALUE, Integer.MIN_VALUE + 1, -2, -1};

    public static void main(String[] args) {
        newObjectHasNoCode();

        codeTakes0To255();
        codeRefusesBytesTooSmall();
        codeRefusesBytesTooLarge();
        refusedByteIsNotInTheCode();
        codeTakesTwelve();
        codeRefusesTheByteBehindTwelve();
        refusedByteOfAFullCodeIsNotInIt();
        codeDrawsSpoiltSquaresAnew();
        codeDrawsTheOldLastRowAnew();
        refusedByteLeavesSpoiltSquares();

        rowsHoldEvenNumbers();
        columnsHoldEvenNumbers();

        rowsWithoutACode();
        rowsCountsTheLastRow();
        rowsOfTwelve();

        darkOfTheCorners();
        darkLeftAndRightOfTheCode();
        darkAboveAndBelowTheCode();
        darkWithoutACode();

        spoilTurnsOneSquare();
        spoilTwiceTurnsBack();
        spoilLeftAndRightOfTheCode();
        spoilAboveAndBelowTheCode();
        spoilWithoutACode();
        refusedSpoilTurnsNone();

        readOfAGoodCode();
        readMendsEachSquare();
        readOfTwoInARow();
        readOfTwoInAColumn();
        readOfTwoAcross();
        readOfThreeInARow();
        readThatCannotBeDoesNothing();
        readOfThreeOfARectangle();
        readOfFourOfARectangle();
        readWithoutACode();
        readsAreThoseOfAllTried();

        byteAtTellsTheSquaresAsTheyAre();
        byteAtTellsEachBit();
        byteAtDoesNotTellColumn8();
        byteAtBelowZero();
        byteAtBehindTheLast();
        byteAtWithoutACode();

        wipeForgetsAll();
        wipeMakesRoomForTwelve();
        wipeLeavesNoSquare();
        wipeOfNothing();
        CHECK.end();
    }

    private static PageForms with(int... bytes) {
        PageForms forms = new PageForms();
        for (int b : bytes) {
            CHECK.due("code(" + b + ")", forms.code(b), true);
        }
        return forms;
    }

    private static void dueSquares(PageForms forms, String what, int... bytes) {
        CHECK.due(what + ": rows()", forms.rows(), bytes.length == 0 ? 0 : bytes.length + 1);
        boolean[] columns = new boolean[9];
        for (int y = 0; y < bytes.length; y++) {
            boolean odd = false;
            for (int x = 0; x < 8; x++) {
                boolean dark = bytes[y] / (1 << (7 - x)) % 2 == 1;
                CHECK.due(what + ": dark(" + x + ", " + y + ")", forms.dark(x, y), dark);
                odd ^= dark;
                columns[x] ^= dark;
            }
            CHECK.due(what + ": dark(8, " + y + ")", forms.dark(8, y), odd);
            columns[8] ^= odd;
            CHECK.due(what + ": byteAt(" + y + ")", forms.byteAt(y), bytes[y]);
        }
        for (int x = 0; x < 9 && bytes.length > 0; x++) {
            CHECK.due(what + ": last row, " + x, forms.dark(x, bytes.length), columns[x]);
        }
        CHECK.due(what + ": byteAt behind the last", forms.byteAt(bytes.length), -1);
    }

    private static void dueNoCode(PageForms forms, String what) {
        dueSquares(forms, what);
        CHECK.due(what + ": read()", forms.read(), -1);
        for (int y = 0; y < 14; y++) {
            for (int x = 0; x < 10; x++) {
                CHECK.due(what + ": dark", forms.dark(x, y), false);
            }
            CHECK.due(what + ": byteAt", forms.byteAt(y), -1);
        }
    }

    private static void spoil(PageForms forms, int x, int y) {
        CHECK.due("spoil(" + x + ", " + y + ")", forms.spoil(x, y), true);
    }

    // Promise 1

    private static void newObjectHasNoCode() {
        CHECK.by("1: no code");
        dueNoCode(new PageForms(), "new");
    }

    // Promise 14

    private static void codeTakes0To255() {
        CHECK.by("14: A byte comes behind those of the code: true");
        for (int b = 0; b < 256; b++) {
            PageForms forms = with(b);
            dueSquares(forms, "byte " + b, b);
            CHECK.due("read of byte " + b, forms.read(), 0);
        }
        dueSquares(with(0, 255), "0 and 255", 0, 255);
    }

    private static void codeRefusesBytesTooSmall() {
        CHECK.by("14: false when it is not 0 to 255, too small");
        PageForms forms = new PageForms();
        int[] small = {Integer.MIN_VALUE, -65536, -256, -255, -128, -2, -1};
        for (int b : small) {
            CHECK.due("code(" + b + ")", forms.code(b), false);
        }
        dueNoCode(forms, "all refused");
    }

    private static void codeRefusesBytesTooLarge() {
        CHECK.by("14: false when it is not 0 to 255, too large");
        PageForms forms = new PageForms();
        int[] large = {256, 257, 511, 512, 65536, Integer.MAX_VALUE - 1, Integer.MAX_VALUE};
        for (int b : large) {
            CHECK.due("code(" + b + ")", forms.code(b), false);
        }
        dueNoCode(forms, "all refused");
    }

    private static void refusedByteIsNotInTheCode() {
        CHECK.by("14: false when it is not 0 to 255: no byte comes behind then");
        int[] wrong = {Integer.MIN_VALUE, -1, 256, Integer.MAX_VALUE};
        PageForms forms = with(165);
        for (int b : wrong) {
            CHECK.due("code(" + b + ")", forms.code(b), false);
            dueSquares(forms, "one byte", 165);
        }
        CHECK.due("code(7)", forms.code(7), true);
        dueSquares(forms, "the next is byte 1", 165, 7);
    }

    private static void codeTakesTwelve() {
        CHECK.by("14: there are 12: the last of them is taken");
        PageForms forms = with(Arrays.copyOf(TWELVE, 11));
        CHECK.due("code 11", forms.code(TWELVE[11]), true);
        dueSquares(forms, "twelve", TWELVE);
        CHECK.due("read of twelve", forms.read(), 0);
    }

    private static void codeRefusesTheByteBehindTwelve() {
        CHECK.by("14: false when there are 12");
        PageForms forms = with(TWELVE);
        int[] more = {0, 1, 255, -1, 256};
        for (int b : more) {
            CHECK.due("code(" + b + ") behind 12", forms.code(b), false);
        }
    }

    private static void refusedByteOfAFullCodeIsNotInIt() {
        CHECK.by("14: false when there are 12: no byte comes behind then");
        PageForms forms = with(TWELVE);
        CHECK.due("code(170) behind 12", forms.code(170), false);
        dueSquares(forms, "twelve", TWELVE);
        CHECK.due("rows", forms.rows(), 13);
        CHECK.due("byteAt(12)", forms.byteAt(12), -1);
        CHECK.due("read", forms.read(), 0);
    }

    private static void codeDrawsSpoiltSquaresAnew() {
        CHECK.by("14: All squares are as they have to be then, spoilt ones, too");
        PageForms forms = with(165, 7);
        spoil(forms, 0, 0);
        spoil(forms, 8, 1);
        spoil(forms, 4, 2);
        CHECK.due("code(9)", forms.code(9), true);
        dueSquares(forms, "behind spoilt ones", 165, 7, 9);
        CHECK.due("read behind", forms.read(), 0);
    }

    private static void codeDrawsTheOldLastRowAnew() {
        CHECK.by("14: All squares are as they have to be then, of the row that was the last, too");
        PageForms forms = with(255);
        CHECK.due("the last row", forms.dark(0, 1), true);
        CHECK.due("code(0)", forms.code(0), true);
        CHECK.due("now it is byte 1", forms.dark(0, 1), false);
        dueSquares(forms, "two bytes", 255, 0);
    }

    private static void refusedByteLeavesSpoiltSquares() {
        CHECK.by("14: false: no square changes then");
        PageForms forms = with(165);
        spoil(forms, 0, 0);
        CHECK.due("code(256)", forms.code(256), false);
        CHECK.due("code(-1)", forms.code(-1), false);
        CHECK.due("still spoilt", forms.byteAt(0), 37);
        PageForms full = with(1, 2, 3, 4, 5, 6, 7, 8, 9, 10, 11, 12);
        spoil(full, 0, 0);
        CHECK.due("code of a full one", full.code(1), false);
        CHECK.due("still spoilt", full.byteAt(0), 129);
    }

    // Terms

    private static void rowsHoldEvenNumbers() {
        CHECK.by("Terms: in column 8 a square, so that the row's dark ones are even in number");
        CHECK.due("1 is odd", with(1).dark(8, 0), true);
        CHECK.due("128 is odd", with(128).dark(8, 0), true);
        CHECK.due("3 is even", with(3).dark(8, 0), false);
        CHECK.due("0 is even", with(0).dark(8, 0), false);
        CHECK.due("255 is even", with(255).dark(8, 0), false);
        CHECK.due("254 is odd", with(254).dark(8, 0), true);
    }

    private static void columnsHoldEvenNumbers() {
        CHECK.by("Terms: a last row, so that each column's are (column 8, too)");
        dueSquares(with(1, 2, 4), "corner is dark", 1, 2, 4);
        CHECK.due("three odd rows", with(1, 2, 4).dark(8, 3), true);
        CHECK.due("two odd rows", with(1, 2, 3).dark(8, 3), false);
        CHECK.due("one byte's last row is like its first", with(1).dark(7, 1), true);
    }

    // Promise 15

    private static void rowsWithoutACode() {
        CHECK.by("15: 0 without one");
        PageForms forms = new PageForms();
        CHECK.due("new", forms.rows(), 0);
        CHECK.due("code(256)", forms.code(256), false);
        CHECK.due("a refused byte", forms.rows(), 0);
        CHECK.due("code(1)", forms.code(1), true);
        forms.wipe();
        CHECK.due("wiped", forms.rows(), 0);
    }

    private static void rowsCountsTheLastRow() {
        CHECK.by("15: How many rows the code has");
        PageForms forms = new PageForms();
        for (int i = 0; i < 12; i++) {
            CHECK.due("code", forms.code(0), true);
            CHECK.due("rows of " + (i + 1), forms.rows(), i + 2);
        }
    }

    private static void rowsOfTwelve() {
        CHECK.by("15: How many rows the code has, the most");
        PageForms forms = with(TWELVE);
        CHECK.due("rows", forms.rows(), 13);
        CHECK.due("code(1)", forms.code(1), false);
        CHECK.due("rows behind a refused byte", forms.rows(), 13);
    }

    // Promise 16

    private static void darkOfTheCorners() {
        CHECK.by("16: Whether a square is dark, in the corners");
        PageForms forms = with(128, 1, 1);
        CHECK.due("dark(0, 0)", forms.dark(0, 0), true);
        CHECK.due("dark(8, 0)", forms.dark(8, 0), true);
        CHECK.due("dark(0, 3)", forms.dark(0, 3), true);
        CHECK.due("dark(8, 3)", forms.dark(8, 3), true);
        PageForms most = with(TWELVE);
        boolean corner = most.dark(8, 12);
        spoil(most, 8, 12);
        CHECK.due("dark(8, 12)", most.dark(8, 12), !corner);
    }

    private static void darkLeftAndRightOfTheCode() {
        CHECK.by("16: false when there is none such, x too small or too large");
        PageForms forms = with(255, 254, 127, 1);
        int[] right = {9, 10, 31, 32, 40, 64, Integer.MAX_VALUE - 1, Integer.MAX_VALUE};
        for (int y = 0; y < 5; y++) {
            for (int x : BELOW_ZERO) {
                CHECK.due("dark(" + x + ", " + y + ")", forms.dark(x, y), false);
            }
            for (int x : right) {
                CHECK.due("dark(" + x + ", " + y + ")", forms.dark(x, y), false);
            }
        }
    }

    private static void darkAboveAndBelowTheCode() {
        CHECK.by("16: false when there is none such, y too small or too large");
        PageForms forms = with(255, 1);
        CHECK.due("the last row", forms.dark(0, 2), true);
        int[] below = {3, 4, 12, 13, 14, Integer.MAX_VALUE - 1, Integer.MAX_VALUE};
        for (int x = 0; x < 9; x++) {
            for (int y : BELOW_ZERO) {
                CHECK.due("dark(" + x + ", " + y + ")", forms.dark(x, y), false);
            }
            for (int y : below) {
                CHECK.due("dark(" + x + ", " + y + ")", forms.dark(x, y), false);
            }
        }
        PageForms most = with(TWELVE);
        for (int x = 0; x < 9; x++) {
            CHECK.due("dark(" + x + ", 13)", most.dark(x, 13), false);
            CHECK.due("dark(" + x + ", 14)", most.dark(x, 14), false);
        }
    }

    private static void darkWithoutACode() {
        CHECK.by("16: false when there is none such, there being no code");
        PageForms wiped = with(255, 255, 255);
        wiped.wipe();
        for (int y = -1; y < 14; y++) {
            for (int x = -1; x < 10; x++) {
                CHECK.due("new", new PageForms().dark(x, y), false);
                CHECK.due("wiped", wiped.dark(x, y), false);
            }
        }
    }

    // Promise 17

    private static void spoilTurnsOneSquare() {
        CHECK.by("17: dark ones become light, light ones dark: true");
        for (int y = 0; y < 4; y++) {
            for (int x = 0; x < 9; x++) {
                PageForms forms = with(255, 0, 165);
                PageForms before = with(255, 0, 165);
                spoil(forms, x, y);
                dueOneTurned(forms, before, x, y);
            }
        }
    }

    private static void dueOneTurned(PageForms forms, PageForms before, int turnedX, int turnedY) {
        for (int y = 0; y < 4; y++) {
            for (int x = 0; x < 9; x++) {
                boolean turned = x == turnedX && y == turnedY;
                CHECK.due("dark(" + x + ", " + y + ")", forms.dark(x, y),
                    before.dark(x, y) != turned);
            }
        }
    }

    private static void spoilTwiceTurnsBack() {
        CHECK.by("17: dark ones become light, light ones dark, and back");
        PageForms forms = with(255, 0);
        for (int y = 0; y < 3; y++) {
            for (int x = 0; x < 9; x++) {
                spoil(forms, x, y);
                spoil(forms, x, y);
            }
        }
        dueSquares(forms, "all turned back", 255, 0);
        CHECK.due("read", forms.read(), 0);
    }

    private static void spoilLeftAndRightOfTheCode() {
        CHECK.by("17: false when there is none such, x too small or too large");
        PageForms forms = with(255, 1);
        int[] right = {9, 10, 31, 32, 40, 64, Integer.MAX_VALUE - 1, Integer.MAX_VALUE};
        for (int y = 0; y < 3; y++) {
            for (int x : BELOW_ZERO) {
                CHECK.due("spoil(" + x + ", " + y + ")", forms.spoil(x, y), false);
            }
            for (int x : right) {
                CHECK.due("spoil(" + x + ", " + y + ")", forms.spoil(x, y), false);
            }
        }
    }

    private static void spoilAboveAndBelowTheCode() {
        CHECK.by("17: false when there is none such, y too small or too large");
        PageForms forms = with(255, 1);
        int[] below = {3, 4, 12, 13, 14, Integer.MAX_VALUE - 1, Integer.MAX_VALUE};
        for (int x = 0; x < 9; x++) {
            for (int y : BELOW_ZERO) {
                CHECK.due("spoil(" + x + ", " + y + ")", forms.spoil(x, y), false);
            }
            for (int y : below) {
                CHECK.due("spoil(" + x + ", " + y + ")", forms.spoil(x, y), false);
            }
        }
        PageForms most = with(TWELVE);
        CHECK.due("spoil(8, 12)", most.spoil(8, 12), true);
        CHECK.due("spoil(8, 13)", most.spoil(8, 13), false);
        CHECK.due("spoil(9, 12)", most.spoil(9, 12), false);
    }

    private static void spoilWithoutACode() {
        CHECK.by("17: false when there is none such, there being no code");
        PageForms forms = new PageForms();
        PageForms wiped = with(255, 255, 255);
        wiped.wipe();
        for (int y = -1; y < 14; y++) {
            for (int x = -1; x < 10; x++) {
                CHECK.due("new", forms.spoil(x, y), false);
                CHECK.due("wiped", wiped.spoil(x, y), false);
            }
        }
        dueNoCode(forms, "new");
        CHECK.due("code(7)", wiped.code(7), true);
        dueSquares(wiped, "one byte anew", 7);
        CHECK.due("read", wiped.read(), 0);
    }

    private static void refusedSpoilTurnsNone() {
        CHECK.by("17: false when there is none such: no square is turned then");
        int[][] none = {{-1, 0}, {9, 0}, {0, -1}, {0, 4}, {8, 4}, {9, 3}, {-1, 3}, {32, 0},
            {40, 1}, {-24, 0}, {Integer.MIN_VALUE, 0}, {0, Integer.MIN_VALUE},
            {Integer.MAX_VALUE, 0}, {0, Integer.MAX_VALUE}};
        PageForms forms = with(255, 0, 165);
        for (int[] square : none) {
            CHECK.due("spoil", forms.spoil(square[0], square[1]), false);
        }
        dueSquares(forms, "nothing was spoilt", 255, 0, 165);
        CHECK.due("read", forms.read(), 0);
    }

    // Promise 18

    private static void readOfAGoodCode() {
        CHECK.by("18: 0 when all rows and columns are even");
        for (int n = 1; n <= 12; n++) {
            int[] first = Arrays.copyOf(TWELVE, n);
            PageForms forms = with(first);
            CHECK.due("read of " + n, forms.read(), 0);
            CHECK.due("read of " + n + " again", forms.read(), 0);
            dueSquares(forms, "as they were", first);
        }
        CHECK.due("all light", with(0, 0).read(), 0);
    }

    private static void readMendsEachSquare() {
        CHECK.by("18: 1 when it is by turning over just one square (that is done then)");
        for (int n = 1; n <= 12; n++) {
            int[] first = Arrays.copyOf(TWELVE, n);
            PageForms forms = with(first);
            for (int y = 0; y <= n; y++) {
                for (int x = 0; x < 9; x++) {
                    spoil(forms, x, y);
                    CHECK.due("read mends (" + x + ", " + y + ")", forms.read(), 1);
                }
            }
            dueSquares(forms, "all mended", first);
            CHECK.due("and all is even", forms.read(), 0);
        }
    }

    private static void dueNotMended(String what, int... squares) {
        PageForms forms = with(165, 0);
        for (int i = 0; i < squares.length; i += 2) {
            spoil(forms, squares[i], squares[i + 1]);
        }
        CHECK.due(what + ": read", forms.read(), -1);
        CHECK.due(what + ": read again", forms.read(), -1);
        for (int i = 0; i < squares.length; i += 2) {
            spoil(forms, squares[i], squares[i + 1]);
        }
        dueSquares(forms, what + ": nothing was done", 165, 0);
    }

    private static void readOfTwoInARow() {
        CHECK.by("18: -1 when it can't be: all rows even, columns not");
        dueNotMended("bits", 0, 0, 1, 0);
        dueNotMended("a bit and column 8", 7, 1, 8, 1);
        dueNotMended("of the last row", 0, 2, 8, 2);
    }

    private static void readOfTwoInAColumn() {
        CHECK.by("18: -1 when it can't be: all columns even, rows not");
        dueNotMended("bits", 0, 0, 0, 1);
        dueNotMended("a bit and the last row", 7, 1, 7, 2);
        dueNotMended("of column 8", 8, 0, 8, 2);
    }

    private static void readOfTwoAcross() {
        CHECK.by("18: -1 when it can't be: two rows and two columns odd");
        dueNotMended("bits", 0, 0, 1, 1);
        dueNotMended("the corner and a bit", 8, 2, 0, 0);
        dueNotMended("column 8 and the last row", 8, 0, 3, 2);
    }

    private static void readOfThreeInARow() {
        CHECK.by("18: -1 when it can't be: one row and three columns odd, or three and one");
        dueNotMended("a row", 0, 0, 1, 0, 2, 0);
        dueNotMended("a column", 4, 0, 4, 1, 4, 2);
        dueNotMended("one row, five columns", 0, 1, 2, 1, 4, 1, 6, 1, 8, 1);
    }

    private static void readThatCannotBeDoesNothing() {
        CHECK.by("18: -1 when it can't be (nothing is done)");
        PageForms forms = with(165, 0);
        spoil(forms, 0, 0);
        spoil(forms, 1, 1);
        CHECK.due("read", forms.read(), -1);
        CHECK.due("byteAt(0)", forms.byteAt(0), 37);
        CHECK.due("byteAt(1)", forms.byteAt(1), 64);
        // One of both turned back by hand leaves one that can be mended.
        spoil(forms, 1, 1);
        CHECK.due("read", forms.read(), 1);
        dueSquares(forms, "mended", 165, 0);
    }

    private static void readOfThreeOfARectangle() {
        CHECK.by("18: 1 when it is by turning over just one square, be it another");
        PageForms forms = with(0, 0);
        spoil(forms, 0, 0);
        spoil(forms, 1, 0);
        spoil(forms, 0, 1);
        CHECK.due("three of a rectangle", forms.read(), 1);
        CHECK.due("the fourth is turned", forms.dark(1, 1), true);
        CHECK.due("byteAt(0)", forms.byteAt(0), 192);
        CHECK.due("byteAt(1)", forms.byteAt(1), 192);
        CHECK.due("even and wrong", forms.read(), 0);
    }

    private static void readOfFourOfARectangle() {
        CHECK.by("18: 0 when all rows and columns are even, be they spoilt");
        PageForms forms = with(0, 0);
        spoil(forms, 0, 0);
        spoil(forms, 8, 0);
        spoil(forms, 0, 2);
        spoil(forms, 8, 2);
        CHECK.due("read", forms.read(), 0);
        CHECK.due("byteAt(0)", forms.byteAt(0), 128);
    }

    private static void readWithoutACode() {
        CHECK.by("18: -1 without one");
        PageForms forms = new PageForms();
        CHECK.due("new", forms.read(), -1);
        CHECK.due("code(-1)", forms.code(-1), false);
        CHECK.due("a refused byte", forms.read(), -1);
        CHECK.due("code(0)", forms.code(0), true);
        CHECK.due("a code", forms.read(), 0);
        spoil(forms, 3, 0);
        forms.wipe();
        CHECK.due("wiped", forms.read(), -1);
        CHECK.due("wiped, again", forms.read(), -1);
    }

    private static void readsAreThoseOfAllTried() {
        CHECK.by("18: tried by turning over each square");
        Random random = new Random(3);
        for (int round = 0; round < 300; round++) {
            int n = 1 + random.nextInt(12);
            PageForms forms = new PageForms();
            for (int i = 0; i < n; i++) {
                CHECK.due("code", forms.code(random.nextInt(256)), true);
            }
            int wrong = random.nextInt(6);
            for (int i = 0; i < wrong; i++) {
                spoil(forms, random.nextInt(9), random.nextInt(n + 1));
            }
            dueAsTried(forms, n);
        }
    }

    private static void dueAsTried(PageForms forms, int n) {
        boolean[][] squares = new boolean[n + 1][9];
        for (int y = 0; y <= n; y++) {
            for (int x = 0; x < 9; x++) {
                squares[y][x] = forms.dark(x, y);
            }
        }
        int want = isEven(squares) ? 0 : turnOneOver(squares) ? 1 : -1;
        CHECK.due("read as tried", forms.read(), want);
        for (int y = 0; y <= n; y++) {
            for (int x = 0; x < 9; x++) {
                CHECK.due("square behind read", forms.dark(x, y), squares[y][x]);
            }
        }
    }

    private static boolean turnOneOver(boolean[][] squares) {
        for (int y = 0; y < squares.length; y++) {
            for (int x = 0; x < 9; x++) {
                squares[y][x] = !squares[y][x];
                if (isEven(squares)) {
                    return true;
                }
                squares[y][x] = !squares[y][x];
            }
        }
        return false;
    }

    private static boolean isEven(boolean[][] squares) {
        boolean[] columns = new boolean[9];
        boolean even = true;
        for (boolean[] row : squares) {
            boolean odd = false;
            for (int x = 0; x < 9; x++) {
                odd ^= row[x];
                columns[x] ^= row[x];
            }
            even &= !odd;
        }
        for (boolean odd : columns) {
            even &= !odd;
        }
        return even;
    }

    // Promise 19

    private static void byteAtTellsTheSquaresAsTheyAre() {
        CHECK.by("19: Byte i that the squares tell, as they are");
        PageForms forms = with(165, 7);
        CHECK.due("good", forms.byteAt(0), 165);
        spoil(forms, 0, 0);
        CHECK.due("spoilt", forms.byteAt(0), 37);
        CHECK.due("the other one", forms.byteAt(1), 7);
        CHECK.due("read", forms.read(), 1);
        CHECK.due("mended", forms.byteAt(0), 165);
    }

    private static void byteAtTellsEachBit() {
        CHECK.by("19: Byte i that the squares tell, from its highest bit to its lowest");
        PageForms forms = with(0, 255);
        for (int x = 0; x < 8; x++) {
            spoil(forms, x, 0);
            spoil(forms, x, 1);
            CHECK.due("byteAt(0)", forms.byteAt(0), 128 >> x);
            CHECK.due("byteAt(1)", forms.byteAt(1), 255 - (128 >> x));
            spoil(forms, x, 0);
            spoil(forms, x, 1);
        }
    }

    private static void byteAtDoesNotTellColumn8() {
        CHECK.by("19: Byte i that the squares tell: column 8 and the last row are not in it");
        PageForms forms = with(0, 255);
        spoil(forms, 8, 0);
        spoil(forms, 8, 1);
        spoil(forms, 3, 2);
        CHECK.due("byteAt(0)", forms.byteAt(0), 0);
        CHECK.due("byteAt(1)", forms.byteAt(1), 255);
    }

    private static void byteAtBelowZero() {
        CHECK.by("19: -1 when there is none such, too small");
        PageForms forms = with(165, 7);
        for (int i : BELOW_ZERO) {
            CHECK.due("byteAt(" + i + ")", forms.byteAt(i), -1);
        }
    }

    private static void byteAtBehindTheLast() {
        CHECK.by("19: -1 when there is none such, too large (the last row is no byte)");
        PageForms forms = with(165, 7);
        int[] large = {2, 3, 11, 12, 13, 14, 256, Integer.MAX_VALUE - 1, Integer.MAX_VALUE};
        for (int i : large) {
            CHECK.due("byteAt(" + i + ")", forms.byteAt(i), -1);
        }
        PageForms most = with(TWELVE);
        CHECK.due("byteAt(11)", most.byteAt(11), TWELVE[11]);
        CHECK.due("byteAt(12)", most.byteAt(12), -1);
        CHECK.due("byteAt(13)", most.byteAt(13), -1);
    }

    private static void byteAtWithoutACode() {
        CHECK.by("19: -1 when there is none such, there being no code");
        PageForms wiped = with(1, 2, 3);
        wiped.wipe();
        for (int i = -1; i < 14; i++) {
            CHECK.due("new", new PageForms().byteAt(i), -1);
            CHECK.due("wiped", wiped.byteAt(i), -1);
        }
    }

    // Promise 20

    private static void wipeForgetsAll() {
        CHECK.by("20: All of the code is gone");
        PageForms forms = with(255, 128, 3);
        spoil(forms, 0, 0);
        forms.wipe();
        dueNoCode(forms, "wiped");
        CHECK.due("spoil(0, 0)", forms.spoil(0, 0), false);
    }

    private static void wipeMakesRoomForTwelve() {
        CHECK.by("20: All of the code is gone, having been full");
        PageForms forms = with(TWELVE);
        forms.wipe();
        for (int i = 0; i < 12; i++) {
            CHECK.due("code " + i, forms.code(i), true);
        }
        CHECK.due("code 12", forms.code(1), false);
        dueSquares(forms, "twelve new ones", 0, 1, 2, 3, 4, 5, 6, 7, 8, 9, 10, 11);
        CHECK.due("read", forms.read(), 0);
    }

    private static void wipeLeavesNoSquare() {
        CHECK.by("20: All of the code is gone, spoilt squares, too");
        PageForms forms = with(255, 255);
        spoil(forms, 3, 0);
        spoil(forms, 8, 2);
        forms.wipe();
        CHECK.due("code(1)", forms.code(1), true);
        dueSquares(forms, "one byte anew", 1);
        CHECK.due("read anew", forms.read(), 0);
    }

    private static void wipeOfNothing() {
        CHECK.by("20: All of the code is gone, there having been none");
        PageForms forms = new PageForms();
        forms.wipe();
        forms.wipe();
        dueNoCode(forms, "wiped twice");
        CHECK.due("code(7)", forms.code(7), true);
        dueSquares(forms, "one byte", 7);
    }
}
