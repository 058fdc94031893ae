import java.util.Random;

/** Promises 1 and 7 to 9: boxes on pages, in the document's order. */
public final class BoxTest {
    private static final Check CHECK = new Check("BoxTest");
    private static final int[] HEIGHTS_TOO_SMALL = {Integer.MIN_VALUE, -1000, -2, -1, 0};
    private static final int[] HEIGHTS_TOO_LARGE = {1001, 1002, 65537, Integer.MAX_VALUE};
    private static final int[] GAPS_TOO_SMALL = {Integer.MIN_VALUE, -100, -2, -1};
    private static final int[] GAPS_TOO_LARGE = {101, 102, 256, 65536, Integer.MAX_VALUE};

    public static void main(String[] args) {
        newObjectHasNoBoxes();

        boxTakes1And1000();
        boxRefusesHeightsTooSmall();
        boxRefusesHeightsTooLarge();
        refusedBoxIsNone();
        boxTakesSixty();
        boxRefusesTheOneBehindSixty();
        refusedBoxOfAFullOneIsNone();

        boxMayFillThePage();
        boxOneTooHighGoesOn();
        gapStandsBetweenTwoAlone();
        pageFullToItsEndTakesNoMore();
        boxAsHighAsThePage();
        boxHigherThanThePageStandsAlone();
        higherBoxFirst();
        higherBoxLast();
        higherBoxesInARow();
        boxesGoNotBack();

        pagesTakesHeights1And1000();
        pagesTakesGaps0And100();
        pagesRefusesHeights();
        pagesRefusesGaps();
        pagesRefusesBoth();
        pagesWithoutBoxes();
        mostPages();

        putTellsPageAndTop();
        putRefusesHeights();
        putRefusesGaps();
        putRefusesOtherWhats();
        putRefusesBoxesTooSmall();
        putRefusesBoxesTooLarge();
        putWithoutBoxes();
        putOfTheLastOfSixty();
        putAnswersForEachPageAnew();
        laterBoxesMoveNone();
        placesAreThoseOfTheWalk();
        CHECK.end();
    }

    private static PageForms with(int... heights) {
        PageForms forms = new PageForms();
        for (int i = 0; i < heights.length; i++) {
            CHECK.due("box(" + heights[i] + ")", forms.box(heights[i]), i);
        }
        return forms;
    }

    private static PageForms sixty(int height) {
        int[] heights = new int[60];
        java.util.Arrays.fill(heights, height);
        return with(heights);
    }

    private static void duePlace(PageForms forms, int box, int height, int gap, int page, int top) {
        String call = "put(" + box + ", " + height + ", " + gap + ", ";
        CHECK.due(call + "0)", forms.put(box, height, gap, 0), page);
        CHECK.due(call + "1)", forms.put(box, height, gap, 1), top);
    }

    private static void dueNoPlace(PageForms forms, int box, int height, int gap) {
        duePlace(forms, box, height, gap, -1, -1);
    }

    // Promise 1

    private static void newObjectHasNoBoxes() {
        CHECK.by("1: no boxes");
        PageForms forms = new PageForms();
        CHECK.due("pages", forms.pages(10, 1), 0);
        dueNoPlace(forms, 0, 10, 1);
        CHECK.due("the first box", forms.box(5), 0);
    }

    // Promise 7

    private static void boxTakes1And1000() {
        CHECK.by("7: A box: its number; the height 1 to 1,000");
        PageForms forms = with(1, 1000, 2, 999);
        CHECK.due("1 + 1000", forms.pages(1000, 0), 4);
        duePlace(forms, 1, 1000, 0, 1, 0);
        duePlace(forms, 3, 1000, 0, 3, 0);
    }

    private static void boxRefusesHeightsTooSmall() {
        CHECK.by("7: -1 when the height is not 1 to 1,000, too small");
        PageForms forms = new PageForms();
        for (int height : HEIGHTS_TOO_SMALL) {
            CHECK.due("box(" + height + ")", forms.box(height), -1);
        }
        CHECK.due("pages", forms.pages(10, 0), 0);
    }

    private static void boxRefusesHeightsTooLarge() {
        CHECK.by("7: -1 when the height is not 1 to 1,000, too large");
        PageForms forms = new PageForms();
        for (int height : HEIGHTS_TOO_LARGE) {
            CHECK.due("box(" + height + ")", forms.box(height), -1);
        }
        CHECK.due("pages", forms.pages(10, 0), 0);
    }

    private static void refusedBoxIsNone() {
        CHECK.by("7: -1 when the height is not so: there is no box more then");
        PageForms forms = with(4, 5);
        int[] wrong = {Integer.MIN_VALUE, 0, 1001, Integer.MAX_VALUE};
        for (int height : wrong) {
            CHECK.due("box(" + height + ")", forms.box(height), -1);
            CHECK.due("pages", forms.pages(10, 1), 1);
            dueNoPlace(forms, 2, 10, 1);
        }
        CHECK.due("its number goes to the next", forms.box(6), 2);
        duePlace(forms, 2, 10, 1, 1, 0);
        for (int i = 3; i < 60; i++) {
            CHECK.due("box(0)", forms.box(0), -1);
            CHECK.due("none took room", forms.box(1), i);
        }
    }

    private static void boxTakesSixty() {
        CHECK.by("7: there are 60: the last of them is taken");
        PageForms forms = new PageForms();
        for (int i = 0; i < 60; i++) {
            CHECK.due("box " + i, forms.box(5), i);
        }
        CHECK.due("on pages of their own", forms.pages(5, 0), 60);
        CHECK.due("on one page", forms.pages(300, 0), 1);
    }

    private static void boxRefusesTheOneBehindSixty() {
        CHECK.by("7: -1 when there are 60");
        PageForms forms = sixty(5);
        int[] heights = {1, 5, 1000, 0, 1001};
        for (int height : heights) {
            CHECK.due("box(" + height + ") behind 60", forms.box(height), -1);
        }
    }

    private static void refusedBoxOfAFullOneIsNone() {
        CHECK.by("7: -1 when there are 60: there is no box more then");
        PageForms forms = sixty(5);
        CHECK.due("box(7) behind 60", forms.box(7), -1);
        CHECK.due("pages", forms.pages(5, 0), 60);
        CHECK.due("pages", forms.pages(300, 0), 1);
        duePlace(forms, 0, 299, 0, 0, 0);
        duePlace(forms, 59, 299, 0, 1, 0);
        dueNoPlace(forms, 60, 300, 0);
    }

    // Terms

    private static void boxMayFillThePage() {
        CHECK.by("Terms: a box goes to the page that is begun if it still fits");
        PageForms forms = with(4, 5, 6);
        CHECK.due("4 + 1 + 5 on 10", forms.pages(10, 1), 2);
        duePlace(forms, 1, 10, 1, 0, 5);
        duePlace(forms, 2, 10, 1, 1, 0);
        CHECK.due("4 + 5 + 6 on 15", forms.pages(15, 0), 1);
        duePlace(forms, 2, 15, 0, 0, 9);
        CHECK.due("a gap of 100", forms.pages(215, 100), 1);
        duePlace(forms, 2, 215, 100, 0, 209);
    }

    private static void boxOneTooHighGoesOn() {
        CHECK.by("Terms: else onto a new one");
        PageForms forms = with(4, 5, 6);
        CHECK.due("4 + 2 + 5 on 10", forms.pages(10, 2), 3);
        duePlace(forms, 1, 10, 2, 1, 0);
        duePlace(forms, 2, 10, 2, 2, 0);
        CHECK.due("4 + 5 + 6 on 14", forms.pages(14, 0), 2);
        duePlace(forms, 2, 14, 0, 1, 0);
        CHECK.due("a gap of 100", forms.pages(214, 100), 2);
        duePlace(forms, 2, 214, 100, 1, 0);
    }

    private static void gapStandsBetweenTwoAlone() {
        CHECK.by("Terms: one below the other with a GAP between two");
        PageForms forms = with(3, 3, 3);
        CHECK.due("none above the first or below the last", forms.pages(8, 2), 2);
        duePlace(forms, 0, 8, 2, 0, 0);
        duePlace(forms, 1, 8, 2, 0, 5);
        duePlace(forms, 2, 8, 2, 1, 0);
        CHECK.due("one box, the gap greater than the page", with(3).pages(3, 100), 1);
    }

    private static void pageFullToItsEndTakesNoMore() {
        CHECK.by("Terms: if it still fits: nothing does on a full page");
        PageForms forms = with(10, 1, 9, 1);
        CHECK.due("pages", forms.pages(10, 0), 3);
        duePlace(forms, 1, 10, 0, 1, 0);
        duePlace(forms, 2, 10, 0, 1, 1);
        duePlace(forms, 3, 10, 0, 2, 0);
    }

    private static void boxAsHighAsThePage() {
        CHECK.by("Terms: one higher than the page: as high is not higher");
        PageForms forms = with(2, 10, 2);
        CHECK.due("pages", forms.pages(10, 0), 3);
        duePlace(forms, 1, 10, 0, 1, 0);
        PageForms first = with(1000, 1);
        CHECK.due("pages", first.pages(1000, 0), 2);
        duePlace(first, 0, 1000, 0, 0, 0);
    }

    private static void boxHigherThanThePageStandsAlone() {
        CHECK.by("Terms: one higher than the page onto a new one alone (it hangs over)");
        PageForms forms = with(2, 11, 1, 2);
        CHECK.due("pages", forms.pages(10, 0), 3);
        duePlace(forms, 0, 10, 0, 0, 0);
        duePlace(forms, 1, 10, 0, 1, 0);
        duePlace(forms, 2, 10, 0, 2, 0);
        duePlace(forms, 3, 10, 0, 2, 1);
        CHECK.due("hangs over far", with(1, 1000, 1).pages(1, 0), 3);
    }

    private static void higherBoxFirst() {
        CHECK.by("Terms: and behind it a new one is begun");
        PageForms forms = with(11, 1);
        CHECK.due("pages", forms.pages(10, 0), 2);
        duePlace(forms, 0, 10, 0, 0, 0);
        duePlace(forms, 1, 10, 0, 1, 0);
    }

    private static void higherBoxLast() {
        CHECK.by("8: how many PAGES all boxes take: none that no box is on");
        CHECK.due("high last", with(1, 11).pages(10, 0), 2);
        CHECK.due("high alone", with(1000).pages(1, 100), 1);
    }

    private static void higherBoxesInARow() {
        CHECK.by("Terms: one higher than the page onto a new one, behind another such");
        PageForms forms = with(11, 12, 1000, 3);
        CHECK.due("pages", forms.pages(10, 1), 4);
        duePlace(forms, 0, 10, 1, 0, 0);
        duePlace(forms, 1, 10, 1, 1, 0);
        duePlace(forms, 2, 10, 1, 2, 0);
        duePlace(forms, 3, 10, 1, 3, 0);
    }

    private static void boxesGoNotBack() {
        CHECK.by("Terms: a box goes to the page that is begun");
        PageForms forms = with(5, 6, 4, 4);
        // Both small ones would fit onto the first page, too.
        duePlace(forms, 2, 10, 0, 1, 6);
        duePlace(forms, 3, 10, 0, 2, 0);
    }

    // Promise 8

    private static void pagesTakesHeights1And1000() {
        CHECK.by("8: a HEIGHT (1 to 1,000)");
        PageForms forms = with(1, 1, 2);
        CHECK.due("pages(1, 0)", forms.pages(1, 0), 3);
        CHECK.due("pages(2, 0)", forms.pages(2, 0), 2);
        CHECK.due("pages(999, 0)", forms.pages(999, 0), 1);
        CHECK.due("pages(1000, 0)", forms.pages(1000, 0), 1);
    }

    private static void pagesTakesGaps0And100() {
        CHECK.by("8: a GAP (0 to 100)");
        PageForms forms = with(1, 1);
        CHECK.due("pages(2, 0)", forms.pages(2, 0), 1);
        CHECK.due("pages(2, 1)", forms.pages(2, 1), 2);
        CHECK.due("pages(101, 99)", forms.pages(101, 99), 1);
        CHECK.due("pages(101, 100)", forms.pages(101, 100), 2);
        CHECK.due("pages(102, 100)", forms.pages(102, 100), 1);
    }

    private static void pagesRefusesHeights() {
        CHECK.by("8: -1 when one of both is not so, the height");
        PageForms forms = with(3);
        for (int height : HEIGHTS_TOO_SMALL) {
            CHECK.due("pages(" + height + ", 0)", forms.pages(height, 0), -1);
            CHECK.due("pages(" + height + ", 100)", forms.pages(height, 100), -1);
        }
        for (int height : HEIGHTS_TOO_LARGE) {
            CHECK.due("pages(" + height + ", 0)", forms.pages(height, 0), -1);
            CHECK.due("pages(" + height + ", 100)", forms.pages(height, 100), -1);
        }
    }

    private static void pagesRefusesGaps() {
        CHECK.by("8: -1 when one of both is not so, the gap");
        PageForms forms = with(3);
        for (int gap : GAPS_TOO_SMALL) {
            CHECK.due("pages(1, " + gap + ")", forms.pages(1, gap), -1);
            CHECK.due("pages(1000, " + gap + ")", forms.pages(1000, gap), -1);
        }
        for (int gap : GAPS_TOO_LARGE) {
            CHECK.due("pages(1, " + gap + ")", forms.pages(1, gap), -1);
            CHECK.due("pages(1000, " + gap + ")", forms.pages(1000, gap), -1);
        }
    }

    private static void pagesRefusesBoth() {
        CHECK.by("8: -1 when one of both is not so, and when both are not");
        PageForms forms = with(3);
        CHECK.due("pages(0, -1)", forms.pages(0, -1), -1);
        CHECK.due("pages(0, 101)", forms.pages(0, 101), -1);
        CHECK.due("pages(1001, -1)", forms.pages(1001, -1), -1);
        CHECK.due("pages(1001, 101)", forms.pages(1001, 101), -1);
        CHECK.due("pages(MIN, MAX)", forms.pages(Integer.MIN_VALUE, Integer.MAX_VALUE), -1);
    }

    private static void pagesWithoutBoxes() {
        CHECK.by("8: how many PAGES all boxes take, there being none");
        PageForms forms = new PageForms();
        CHECK.due("pages(1, 0)", forms.pages(1, 0), 0);
        CHECK.due("pages(1000, 100)", forms.pages(1000, 100), 0);
        CHECK.due("a height that is not so", forms.pages(0, 0), -1);
        CHECK.due("a height that is not so", forms.pages(1001, 0), -1);
        CHECK.due("a gap that is not so", forms.pages(10, -1), -1);
        CHECK.due("a gap that is not so", forms.pages(10, 101), -1);
    }

    private static void mostPages() {
        CHECK.by("8: how many PAGES all boxes take, sixty of them");
        PageForms forms = sixty(1000);
        CHECK.due("as high as the page", forms.pages(1000, 0), 60);
        CHECK.due("higher", forms.pages(999, 100), 60);
        CHECK.due("higher", forms.pages(1, 100), 60);
        PageForms low = sixty(1);
        CHECK.due("all on one", low.pages(60, 0), 1);
        CHECK.due("all but one on one", low.pages(59, 0), 2);
        CHECK.due("ten a page", low.pages(1000, 100), 6);
    }

    // Promise 9

    private static void putTellsPageAndTop() {
        CHECK.by("9: the page (what 0) or its top on that (1)");
        PageForms forms = with(3, 4);
        duePlace(forms, 0, 10, 1, 0, 0);
        duePlace(forms, 1, 10, 1, 0, 4);
        duePlace(forms, 1, 1, 0, 1, 0);
        duePlace(forms, 1, 1000, 100, 0, 103);
    }

    private static void putRefusesHeights() {
        CHECK.by("9: -1 likewise, the height not being so");
        PageForms forms = with(3, 4);
        for (int height : HEIGHTS_TOO_SMALL) {
            dueNoPlace(forms, 0, height, 0);
            dueNoPlace(forms, 1, height, 100);
        }
        for (int height : HEIGHTS_TOO_LARGE) {
            dueNoPlace(forms, 0, height, 0);
            dueNoPlace(forms, 1, height, 100);
        }
    }

    private static void putRefusesGaps() {
        CHECK.by("9: -1 likewise, the gap not being so");
        PageForms forms = with(3, 4);
        for (int gap : GAPS_TOO_SMALL) {
            dueNoPlace(forms, 0, 1, gap);
            dueNoPlace(forms, 1, 1000, gap);
        }
        for (int gap : GAPS_TOO_LARGE) {
            dueNoPlace(forms, 0, 1, gap);
            dueNoPlace(forms, 1, 1000, gap);
        }
        dueNoPlace(forms, 1, 0, 101);
    }

    private static void putRefusesOtherWhats() {
        CHECK.by("9: -1 for other what");
        PageForms forms = with(3, 4);
        int[] others = {Integer.MIN_VALUE, -2, -1, 2, 3, 256, 257, Integer.MAX_VALUE};
        for (int what : others) {
            CHECK.due("put(0, 10, 1, " + what + ")", forms.put(0, 10, 1, what), -1);
            CHECK.due("put(1, 10, 1, " + what + ")", forms.put(1, 10, 1, what), -1);
        }
    }

    private static void putRefusesBoxesTooSmall() {
        CHECK.by("9: -1 when there is no such box, too small");
        PageForms forms = with(3, 4);
        int[] small = {Integer.MIN_VALUE, -60, -2, -1};
        for (int box : small) {
            dueNoPlace(forms, box, 10, 1);
        }
    }

    private static void putRefusesBoxesTooLarge() {
        CHECK.by("9: -1 when there is no such box, too large");
        PageForms forms = with(3, 4);
        int[] large = {2, 3, 59, 60, 61, 256, Integer.MAX_VALUE - 1, Integer.MAX_VALUE};
        for (int box : large) {
            dueNoPlace(forms, box, 10, 1);
        }
    }

    private static void putWithoutBoxes() {
        CHECK.by("9: -1 when there is no such box, there being none");
        PageForms forms = new PageForms();
        dueNoPlace(forms, 0, 1, 0);
        dueNoPlace(forms, 0, 1000, 100);
        dueNoPlace(forms, -1, 10, 0);
    }

    private static void putOfTheLastOfSixty() {
        CHECK.by("9: Of a box then, the last of sixty");
        PageForms forms = sixty(10);
        duePlace(forms, 59, 10, 0, 59, 0);
        duePlace(forms, 59, 600, 0, 0, 590);
        duePlace(forms, 59, 599, 0, 1, 0);
        dueNoPlace(forms, 60, 10, 0);
        dueNoPlace(forms, 61, 10, 0);
    }

    private static void putAnswersForEachPageAnew() {
        CHECK.by("9: Of a box then: for the height and gap of this call");
        PageForms forms = with(5, 5, 5);
        duePlace(forms, 2, 10, 0, 1, 0);
        duePlace(forms, 2, 15, 0, 0, 10);
        duePlace(forms, 2, 10, 0, 1, 0);
        CHECK.due("pages between", forms.pages(5, 0), 3);
        duePlace(forms, 1, 10, 0, 0, 5);
        duePlace(forms, 0, 10, 0, 0, 0);
    }

    private static void laterBoxesMoveNone() {
        CHECK.by("Terms: boxes are put in order");
        PageForms forms = with(5);
        duePlace(forms, 0, 10, 0, 0, 0);
        CHECK.due("box(6)", forms.box(6), 1);
        duePlace(forms, 0, 10, 0, 0, 0);
        duePlace(forms, 1, 10, 0, 1, 0);
    }

    private static void placesAreThoseOfTheWalk() {
        CHECK.by("8 and 9: followed by the words of the terms");
        Random random = new Random(7);
        for (int round = 0; round < 300; round++) {
            int[] heights = new int[random.nextInt(61)];
            for (int i = 0; i < heights.length; i++) {
                heights[i] = 1 + random.nextInt(1 + round % 20 * 50);
            }
            PageForms forms = with(heights);
            int height = 1 + random.nextInt(round % 2 == 0 ? 1000 : 60);
            dueWalk(forms, heights, height, random.nextInt(101));
        }
    }

    /** Follows the document's words case by case, the box higher than the page first. */
    private static void dueWalk(PageForms forms, int[] heights, int height, int gap) {
        int pages = 0;
        boolean begun = false;
        int free = 0;
        for (int i = 0; i < heights.length; i++) {
            if (heights[i] > height) {
                pages++;
                begun = false;
                duePlace(forms, i, height, gap, pages - 1, 0);
            } else if (begun && gap + heights[i] <= free) {
                duePlace(forms, i, height, gap, pages - 1, height - free + gap);
                free -= gap + heights[i];
            } else {
                pages++;
                begun = true;
                free = height - heights[i];
                duePlace(forms, i, height, gap, pages - 1, 0);
            }
        }
        CHECK.due("pages(" + height + ", " + gap + ")", forms.pages(height, gap), pages);
    }
}
