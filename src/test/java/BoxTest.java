import java.util.Random;

/** Promises 1 and 7 to 9: boxes on pages. */
public final class BoxTest {
    private static final Check CHECK = new Check("BoxTest");

    public static void main(String[] args) {
        newObjectHasNoBoxes();
        boxLooksAtTheHeight();
        boxTakesSixty();
        boxesFitWithTheGap();
        highBoxesStandAlone();
        highBoxFirstAndLast();
        highBoxesInARow();
        pagesLooksAtItsArguments();
        putLooksAtItsArguments();
        putAnswersForEachPageAnew();
        laterBoxesMoveNone();
        placesAreThoseOfTheWalk();
        CHECK.end();
    }

    private static PageForms with(int... heights) {
        PageForms forms = new PageForms();
        for (int i = 0; i < heights.length; i++) {
            CHECK.due("box(" + heights[i] + ")", forms.box(heights[i]), i);
        }
        return forms;
    }

    private static void duePlace(PageForms forms, int box, int height, int gap, int page, int top) {
        String call = "put(" + box + ", " + height + ", " + gap + ", ";
        CHECK.due(call + "0)", forms.put(box, height, gap, 0), page);
        CHECK.due(call + "1)", forms.put(box, height, gap, 1), top);
    }

    private static void newObjectHasNoBoxes() {
        PageForms forms = new PageForms();
        CHECK.due("pages without boxes", forms.pages(1, 0), 0);
        CHECK.due("pages without boxes", forms.pages(1000, 100), 0);
        duePlace(forms, 0, 10, 0, -1, -1);
        CHECK.due("wrong height without boxes", forms.pages(0, 0), -1);
    }

    private static void boxLooksAtTheHeight() {
        PageForms forms = new PageForms();
        int[] wrong = {Integer.MIN_VALUE, -1, 0, 1001, Integer.MAX_VALUE};
        for (int height : wrong) {
            CHECK.due("box(" + height + ")", forms.box(height), -1);
        }
        CHECK.due("pages, all refused", forms.pages(10, 0), 0);
        CHECK.due("box(1)", forms.box(1), 0);
        CHECK.due("box(1001)", forms.box(1001), -1);
        CHECK.due("box(1000)", forms.box(1000), 1);
    }

    private static void boxTakesSixty() {
        PageForms forms = new PageForms();
        for (int i = 0; i < 60; i++) {
            CHECK.due("box " + i, forms.box(5), i);
        }
        CHECK.due("box 60", forms.box(5), -1);
        CHECK.due("box 60 again", forms.box(5), -1);
        CHECK.due("pages of 60", forms.pages(5, 0), 60);
        CHECK.due("pages of 60", forms.pages(300, 0), 1);
        duePlace(forms, 59, 299, 0, 1, 0);
        duePlace(forms, 60, 300, 0, -1, -1);
    }

    private static void boxesFitWithTheGap() {
        PageForms forms = with(4, 5, 6);
        CHECK.due("4 + 1 + 5 on 10", forms.pages(10, 1), 2);
        duePlace(forms, 1, 10, 1, 0, 5);
        duePlace(forms, 2, 10, 1, 1, 0);
        CHECK.due("4 + 2 + 5 on 10", forms.pages(10, 2), 3);
        duePlace(forms, 1, 10, 2, 1, 0);
        duePlace(forms, 2, 10, 2, 2, 0);
        CHECK.due("no gap below the last", forms.pages(15, 0), 1);
        duePlace(forms, 2, 15, 0, 0, 9);
        CHECK.due("a gap of 100", forms.pages(215, 100), 1);
        CHECK.due("a gap of 100", forms.pages(214, 100), 2);
        duePlace(forms, 2, 215, 100, 0, 209);
        duePlace(forms, 0, 215, 100, 0, 0);
    }

    private static void highBoxesStandAlone() {
        PageForms forms = with(2, 11, 1, 2);
        CHECK.due("pages", forms.pages(10, 0), 3);
        duePlace(forms, 0, 10, 0, 0, 0);
        duePlace(forms, 1, 10, 0, 1, 0);
        duePlace(forms, 2, 10, 0, 2, 0);
        duePlace(forms, 3, 10, 0, 2, 1);
        CHECK.due("as high as the page is not higher", forms.pages(11, 0), 3);
    }

    private static void highBoxFirstAndLast() {
        PageForms first = with(11, 1);
        CHECK.due("pages, high first", first.pages(10, 0), 2);
        duePlace(first, 0, 10, 0, 0, 0);
        duePlace(first, 1, 10, 0, 1, 0);
        CHECK.due("pages, high last", with(1, 11).pages(10, 0), 2);
        CHECK.due("pages, high alone", with(1000).pages(1, 100), 1);
    }

    private static void highBoxesInARow() {
        PageForms forms = with(11, 12, 1000, 3);
        CHECK.due("pages, three high ones", forms.pages(10, 1), 4);
        duePlace(forms, 1, 10, 1, 1, 0);
        duePlace(forms, 2, 10, 1, 2, 0);
        duePlace(forms, 3, 10, 1, 3, 0);
    }

    private static void pagesLooksAtItsArguments() {
        PageForms forms = with(3);
        int[] wrongHeights = {Integer.MIN_VALUE, -1, 0, 1001, Integer.MAX_VALUE};
        for (int height : wrongHeights) {
            CHECK.due("pages(" + height + ", 0)", forms.pages(height, 0), -1);
        }
        int[] wrongGaps = {Integer.MIN_VALUE, -1, 101, Integer.MAX_VALUE};
        for (int gap : wrongGaps) {
            CHECK.due("pages(10, " + gap + ")", forms.pages(10, gap), -1);
        }
        CHECK.due("pages(1, 0)", forms.pages(1, 0), 1);
        CHECK.due("pages(1000, 100)", forms.pages(1000, 100), 1);
    }

    private static void putLooksAtItsArguments() {
        PageForms forms = with(3, 4);
        int[] extremes = {Integer.MIN_VALUE, -1, 2, 3, Integer.MAX_VALUE};
        for (int wrong : extremes) {
            CHECK.due("put, box " + wrong, forms.put(wrong, 10, 1, 0), -1);
            CHECK.due("put, box " + wrong, forms.put(wrong, 10, 1, 1), -1);
            CHECK.due("put, what " + wrong, forms.put(1, 10, 1, wrong), -1);
        }
        int[] wrongHeights = {Integer.MIN_VALUE, -1, 0, 1001, Integer.MAX_VALUE};
        for (int height : wrongHeights) {
            duePlace(forms, 1, height, 1, -1, -1);
        }
        int[] wrongGaps = {Integer.MIN_VALUE, -1, 101, Integer.MAX_VALUE};
        for (int gap : wrongGaps) {
            duePlace(forms, 1, 10, gap, -1, -1);
        }
        duePlace(forms, 1, 10, 1, 0, 4);
        duePlace(forms, 1, 1, 0, 1, 0);
        duePlace(forms, 1, 1000, 100, 0, 103);
    }

    private static void putAnswersForEachPageAnew() {
        PageForms forms = with(5, 5, 5);
        duePlace(forms, 2, 10, 0, 1, 0);
        duePlace(forms, 2, 15, 0, 0, 10);
        duePlace(forms, 2, 10, 0, 1, 0);
        CHECK.due("pages between", forms.pages(5, 0), 3);
        duePlace(forms, 1, 10, 0, 0, 5);
        duePlace(forms, 0, 10, 0, 0, 0);
    }

    private static void laterBoxesMoveNone() {
        PageForms forms = with(5);
        duePlace(forms, 0, 10, 0, 0, 0);
        CHECK.due("box(6)", forms.box(6), 1);
        duePlace(forms, 0, 10, 0, 0, 0);
        duePlace(forms, 1, 10, 0, 1, 0);
        // A small one could go back onto the page before: boxes are put in order.
        CHECK.due("box(4)", forms.box(4), 2);
        CHECK.due("box(4)", forms.box(4), 3);
        duePlace(forms, 2, 10, 0, 1, 6);
        duePlace(forms, 3, 10, 0, 2, 0);
    }

    private static void placesAreThoseOfTheWalk() {
        Random random = new Random(7);
        for (int round = 0; round < 300; round++) {
            int[] heights = new int[random.nextInt(61)];
            for (int i = 0; i < heights.length; i++) {
                heights[i] = 1 + random.nextInt(1 + round % 20 * 50);
            }
            PageForms forms = with(heights);
            int height = 1 + random.nextInt(round % 2 == 0 ? 1000 : 60);
            dueWalk(forms, heights, height, random.nextInt(101));
        }
    }

    /** Follows the document's words case by case, the box higher than the page first. */
    private static void dueWalk(PageForms forms, int[] heights, int height, int gap) {
        int pages = 0;
        boolean begun = false;
        int free = 0;
        for (int i = 0; i < heights.length; i++) {
            if (heights[i] > height) {
                pages++;
                begun = false;
                duePlace(forms, i, height, gap, pages - 1, 0);
            } else if (begun && gap + heights[i] <= free) {
                duePlace(forms, i, height, gap, pages - 1, height - free + gap);
                free -= gap + heights[i];
            } else {
                pages++;
                begun = true;
                free = height - heights[i];
                duePlace(forms, i, height, gap, pages - 1, 0);
            }
        }
        CHECK.due("pages(" + height + ", " + gap + ")", forms.pages(height, gap), pages);
    }
}
