import java.util.function.Consumer;
import java.util.function.Supplier;

/**
 * A call that does nothing leaves what later calls answer as it was: refused calls, calls that only
 * ask, and, of a call that does something, the parts of the object that it is not about.
 */
public final class NothingDoneTest {
    private static final Check CHECK = new Check("NothingDoneTest");
    private static final int[] FAR = {Integer.MIN_VALUE, -1, Integer.MAX_VALUE};

    public static void main(String[] args) {
        refusedUnit();
        refusedUnitOfAFullText();
        refusedWidth();
        lineAndRest();
        refusedBox();
        refusedBoxOfAFullOne();
        pagesAndPut();
        refusedGrid();
        refusedCage();
        linesAndDrawn();
        refusedCode();
        refusedCodeOfAFullOne();
        rowsDarkAndByteAt();
        refusedSpoil();
        readOfAGoodCode();
        readThatCannotBe();
        readWithoutACode();
        eachPartLeavesTheOthers();
        CHECK.end();
    }

    /** Something of each part: a broken text that ends in a word, cages, a code spoilt once. */
    private static PageForms used() {
        PageForms forms = written("aaa bb cc ddddd e");
        forms.broken(6);
        forms.unit('f');
        for (int i = 0; i < 9; i++) {
            forms.box(10 + i * 31 % 100);
        }
        forms.grid(4, 3);
        for (int cell = 0; cell < 12; cell++) {
            forms.cage(cell, 1 + cell * cell % 9);
        }
        forms.code(165);
        forms.code(7);
        forms.code(0);
        forms.spoil(2, 1);
        return forms;
    }

    private static PageForms written(String text) {
        PageForms forms = new PageForms();
        for (int i = 0; i < text.length(); i++) {
            forms.unit(text.charAt(i));
        }
        return forms;
    }

    private static PageForms fullText() {
        PageForms forms = written(("a".repeat(9) + " " + "b".repeat(4) + " ").repeat(13) + "ccccc");
        forms.broken(20);
        return forms;
    }

    private static PageForms sixtyBoxes() {
        PageForms forms = new PageForms();
        for (int i = 0; i < 60; i++) {
            forms.box(1 + i * 13 % 120);
        }
        return forms;
    }

    private static PageForms fullGrid() {
        PageForms forms = new PageForms();
        forms.grid(8, 8);
        for (int cell = 0; cell < 64; cell++) {
            forms.cage(cell, 1 + cell * 3 / 7 % 9);
        }
        return forms;
    }

    private static PageForms fullCode() {
        PageForms forms = new PageForms();
        for (int i = 0; i < 12; i++) {
            forms.code(i * 67 % 256);
        }
        forms.spoil(4, 4);
        return forms;
    }

    private static void dueNothing(String call, Supplier<PageForms> made,
        Consumer<PageForms> done) {
        for (Answers answers : Answers.values()) {
            dueAlike(call, answers, made, done);
        }
    }

    private static void dueAlike(String call, Answers answers, Supplier<PageForms> made,
        Consumer<PageForms> done) {
        PageForms with = made.get();
        done.accept(with);
        CHECK.due(answers + " behind " + call, answers.of(with), answers.of(made.get()));
    }

    private static void dueNothingEverywhere(String call, Consumer<PageForms> done) {
        dueNothing(call + " of a new one", PageForms::new, done);
        dueNothing(call, NothingDoneTest::used, done);
        dueNothing(call + " of a full text", NothingDoneTest::fullText, done);
        dueNothing(call + " of sixty boxes", NothingDoneTest::sixtyBoxes, done);
        dueNothing(call + " of a full grid", NothingDoneTest::fullGrid, done);
        dueNothing(call + " of a full code", NothingDoneTest::fullCode, done);
    }

    private static void refusedUnit() {
        CHECK.by("2: false, doing nothing, when it is not 32 to 126");
        int[] wrong = {Integer.MIN_VALUE, -1, 0, 31, 127, 288, Integer.MAX_VALUE};
        for (int u : wrong) {
            dueNothingEverywhere("unit(" + u + ")", forms -> forms.unit(u));
        }
    }

    private static void refusedUnitOfAFullText() {
        CHECK.by("2: false, doing nothing, when there are 200");
        CHECK.due("unit behind 200", fullText().unit(97), false);
        dueNothing("unit(97)", NothingDoneTest::fullText, forms -> forms.unit(97));
        dueNothing("unit(32)", NothingDoneTest::fullText, forms -> forms.unit(32));
    }

    private static void refusedWidth() {
        CHECK.by("3: -1, doing nothing, when the width is not so");
        int[] wrong = {Integer.MIN_VALUE, -1, 0, 101, Integer.MAX_VALUE};
        for (int width : wrong) {
            dueNothingEverywhere("broken(" + width + ")", forms -> forms.broken(width));
        }
    }

    private static void lineAndRest() {
        CHECK.by("4 and 5: they only tell");
        int[] lines = {Integer.MIN_VALUE, -1, 0, 1, 3, 4, 100, Integer.MAX_VALUE};
        for (int k : lines) {
            dueNothingEverywhere("line(" + k + ")", forms -> forms.line(k));
        }
        dueNothingEverywhere("rest()", forms -> forms.rest());
    }

    private static void refusedBox() {
        CHECK.by("7: -1 when the height is not 1 to 1,000");
        int[] wrong = {Integer.MIN_VALUE, -1, 0, 1001, Integer.MAX_VALUE};
        for (int height : wrong) {
            dueNothingEverywhere("box(" + height + ")", forms -> forms.box(height));
        }
    }

    private static void refusedBoxOfAFullOne() {
        CHECK.by("7: -1 when there are 60");
        CHECK.due("box behind 60", sixtyBoxes().box(5), -1);
        dueNothing("box(1)", NothingDoneTest::sixtyBoxes, forms -> forms.box(1));
        dueNothing("box(1000)", NothingDoneTest::sixtyBoxes, forms -> forms.box(1000));
    }

    private static void pagesAndPut() {
        CHECK.by("8 and 9: they only tell");
        int[][] pages = {{10, 1}, {1, 0}, {1000, 100}, {0, 0}, {1001, 0}, {10, -1}, {10, 101}};
        for (int[] page : pages) {
            dueNothingEverywhere("pages", forms -> forms.pages(page[0], page[1]));
            dueNothingEverywhere("put", forms -> forms.put(0, page[0], page[1], 0));
            dueNothingEverywhere("put", forms -> forms.put(3, page[0], page[1], 1));
        }
        dueNothingEverywhere("put of no box", forms -> forms.put(60, 10, 1, 0));
        for (int far : FAR) {
            dueNothingEverywhere("put of no box", forms -> forms.put(far, 10, 1, 0));
            dueNothingEverywhere("put of other what", forms -> forms.put(0, 10, 1, far));
        }
    }

    private static void refusedGrid() {
        CHECK.by("10: false, doing nothing, when they are not so");
        int[] wrong = {Integer.MIN_VALUE, -1, 0, 9, Integer.MAX_VALUE};
        for (int side : wrong) {
            dueNothingEverywhere("grid(" + side + ", 2)", forms -> forms.grid(side, 2));
            dueNothingEverywhere("grid(2, " + side + ")", forms -> forms.grid(2, side));
            dueNothingEverywhere("grid of both", forms -> forms.grid(side, side));
        }
    }

    private static void refusedCage() {
        CHECK.by("11: false, doing nothing, when there is no such cell or cage");
        int[] wrongCells = {Integer.MIN_VALUE, -1, 64, Integer.MAX_VALUE};
        for (int cell : wrongCells) {
            dueNothingEverywhere("cage(" + cell + ", 5)", forms -> forms.cage(cell, 5));
        }
        int[] wrongCages = {Integer.MIN_VALUE, -1, 10, Integer.MAX_VALUE};
        for (int cage : wrongCages) {
            dueNothingEverywhere("cage(0, " + cage + ")", forms -> forms.cage(0, cage));
            dueNothingEverywhere("cage(64, " + cage + ")", forms -> forms.cage(64, cage));
        }
        dueNothing("cage(12, 5) of 4 by 3", NothingDoneTest::used, forms -> forms.cage(12, 5));
        dueNothing("cage(1, 5) of 1 by 1", PageForms::new, forms -> forms.cage(1, 5));
    }

    private static void linesAndDrawn() {
        CHECK.by("12 and 13: they only tell");
        dueNothingEverywhere("lines()", forms -> forms.lines());
        for (int what = -1; what <= 5; what++) {
            int part = what;
            dueNothingEverywhere("drawn(0, " + part + ")", forms -> forms.drawn(0, part));
            dueNothingEverywhere("drawn(3, " + part + ")", forms -> forms.drawn(3, part));
            dueNothingEverywhere("drawn(200, " + part + ")", forms -> forms.drawn(200, part));
        }
        for (int far : FAR) {
            dueNothingEverywhere("drawn(" + far + ", 0)", forms -> forms.drawn(far, 0));
            dueNothingEverywhere("drawn(0, " + far + ")", forms -> forms.drawn(0, far));
        }
    }

    private static void refusedCode() {
        CHECK.by("14: false when it is not 0 to 255");
        int[] wrong = {Integer.MIN_VALUE, -1, 256, Integer.MAX_VALUE};
        for (int b : wrong) {
            dueNothingEverywhere("code(" + b + ")", forms -> forms.code(b));
        }
    }

    private static void refusedCodeOfAFullOne() {
        CHECK.by("14: false when there are 12");
        CHECK.due("code behind 12", fullCode().code(5), false);
        dueNothing("code(0)", NothingDoneTest::fullCode, forms -> forms.code(0));
        dueNothing("code(255)", NothingDoneTest::fullCode, forms -> forms.code(255));
    }

    private static void rowsDarkAndByteAt() {
        CHECK.by("15, 16 and 19: they only tell");
        dueNothingEverywhere("rows()", forms -> forms.rows());
        int[] places = {Integer.MIN_VALUE, -1, 0, 1, 8, 9, 12, 13, Integer.MAX_VALUE};
        for (int at : places) {
            dueNothingEverywhere("byteAt(" + at + ")", forms -> forms.byteAt(at));
            dueNothingEverywhere("dark(" + at + ", 0)", forms -> forms.dark(at, 0));
            dueNothingEverywhere("dark(0, " + at + ")", forms -> forms.dark(0, at));
        }
    }

    private static void refusedSpoil() {
        CHECK.by("17: false when there is none such");
        int[][] none = {{-1, 0}, {9, 0}, {0, -1}, {0, 13}, {9, 13}, {-1, -1}, {32, 0}, {40, 0},
            {Integer.MIN_VALUE, 0}, {0, Integer.MIN_VALUE}, {Integer.MAX_VALUE, 0},
            {0, Integer.MAX_VALUE}};
        for (int[] square : none) {
            dueNothingEverywhere("spoil(" + square[0] + ", " + square[1] + ")",
                forms -> forms.spoil(square[0], square[1]));
        }
        dueNothing("spoil(0, 4) of four rows", NothingDoneTest::used, forms -> forms.spoil(0, 4));
        dueNothing("spoil(0, 0) of no code", PageForms::new, forms -> forms.spoil(0, 0));
    }

    private static void readOfAGoodCode() {
        CHECK.by("18: 0 when all rows and columns are even");
        Supplier<PageForms> made = () -> {
            PageForms forms = used();
            CHECK.due("read mends", forms.read(), 1);
            return forms;
        };
        CHECK.due("read of a good code", made.get().read(), 0);
        dueNothing("read()", made, forms -> forms.read());
    }

    private static void readThatCannotBe() {
        CHECK.by("18: -1 when it can't be (nothing is done)");
        int[][] seconds = {{2, 0}, {3, 1}, {7, 3}, {8, 3}, {8, 1}};
        for (int[] second : seconds) {
            Supplier<PageForms> made = () -> {
                PageForms forms = used();
                CHECK.due("a second one", forms.spoil(second[0], second[1]), true);
                return forms;
            };
            CHECK.due("read of two wrong ones", made.get().read(), -1);
            dueNothing("read()", made, forms -> forms.read());
        }
    }

    private static void readWithoutACode() {
        CHECK.by("18: -1 without one");
        dueNothing("read()", PageForms::new, forms -> forms.read());
        dueNothing("read()", NothingDoneTest::fullGrid, forms -> forms.read());
    }

    private static void dueOthersAlike(String call, Answers.Part part, Consumer<PageForms> done) {
        for (Answers answers : Answers.values()) {
            if (answers.part != part) {
                dueAlike(call, answers, NothingDoneTest::used, done);
            }
        }
    }

    private static void eachPartLeavesTheOthers() {
        CHECK.by("all: a call changes what it is about alone");
        dueOthersAlike("unit", Answers.Part.TEXT, forms -> forms.unit(97));
        dueOthersAlike("broken", Answers.Part.TEXT, forms -> forms.broken(9));
        dueOthersAlike("a word too long", Answers.Part.TEXT, forms -> forms.broken(2));
        dueOthersAlike("clear", Answers.Part.TEXT, forms -> forms.clear());
        dueOthersAlike("box", Answers.Part.BOXES, forms -> forms.box(3));
        dueOthersAlike("grid", Answers.Part.GRID, forms -> forms.grid(2, 5));
        dueOthersAlike("cage", Answers.Part.GRID, forms -> forms.cage(1, 9));
        dueOthersAlike("code", Answers.Part.CODE, forms -> forms.code(3));
        dueOthersAlike("spoil", Answers.Part.CODE, forms -> forms.spoil(0, 0));
        dueOthersAlike("read", Answers.Part.CODE, forms -> forms.read());
        dueOthersAlike("wipe", Answers.Part.CODE, forms -> forms.wipe());
    }
}
