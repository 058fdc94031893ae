import java.util.Random;

/** Promises 1 to 6: the text and its break, in the document's order. */
public final class TextTest {
    private static final Check CHECK = new Check("TextTest");
    private static final int[] TOO_SMALL = {Integer.MIN_VALUE, Integer.MIN_VALUE + 1, -256, -1, 0};

    public static void main(String[] args) {
        newObjectHasNoText();

        unitTakes32To126();
        unitRefusesWhatIsTooSmall();
        unitRefusesWhatIsTooLarge();
        refusedByteIsNotInTheText();
        refusedByteTakesNoRoom();
        unitTakesTwoHundred();
        unitRefusesTheByteBehindTwoHundred();
        unitCountsBlanksToo();
        takenByteLeavesTheBreak();
        refusedByteLeavesTheBreak();
        unitGoesOnWithTheLastWord();

        brokenTakesWidths1And100();
        brokenRefusesWidthsTooSmall();
        brokenRefusesWidthsTooLarge();
        refusedWidthLeavesTheBreak();
        refusedWidthComesBeforeLongWords();
        brokenWithoutText();
        brokenOfBlanksAlone();
        brokenTakesAWordAsLongAsTheWidth();
        brokenFindsAWordOneTooLong();
        brokenFindsWordsLongerThanAllWidths();
        tooLongWordLeavesNothingBroken();
        tooLongWordLeavesTheText();

        blanksOnlyPartWords();
        lineMayBeFullToItsEnd();
        lineHasNoRoomForOneMore();
        brokenCountsTheLastLineToo();
        brokenIsNotGreedy();
        brokenTakesMoreWordsFirst();
        mostWords();
        breaksAreThoseOfAllTried();

        lineBelowZero();
        lineBehindTheLast();
        lineWithoutABreak();
        lineIsOfTheLatestBreak();

        restWithoutABreak();
        restOfFullLines();
        restIsOfTheLatestBreak();
        greatRests();

        clearEmptiesTheText();
        clearLeavesNothingBroken();
        clearMakesRoomForTwoHundred();
        clearPartsWords();
        clearLeavesNoOldSums();
        clearOfNothing();
        CHECK.end();
    }

    private static PageForms with(String text) {
        PageForms forms = new PageForms();
        write(forms, text);
        return forms;
    }

    private static void write(PageForms forms, String text) {
        for (int i = 0; i < text.length(); i++) {
            CHECK.due("unit of '" + text + "'", forms.unit(text.charAt(i)), true);
        }
    }

    private static void dueBreak(PageForms forms, String what, int width, int rest, int... firsts) {
        CHECK.due(what + ": broken(" + width + ")", forms.broken(width), firsts.length);
        dueKept(forms, what, rest, firsts);
    }

    private static void dueKept(PageForms forms, String what, int rest, int... firsts) {
        for (int k = 0; k < firsts.length; k++) {
            CHECK.due(what + ": line(" + k + ")", forms.line(k), firsts[k]);
        }
        CHECK.due(what + ": line behind the last", forms.line(firsts.length), -1);
        CHECK.due(what + ": rest()", forms.rest(), rest);
    }

    // Promise 1

    private static void newObjectHasNoText() {
        CHECK.by("1: No text");
        PageForms forms = new PageForms();
        dueKept(forms, "new", 0);
        dueBreak(forms, "new", 10, 0);
        write(forms, "a");
        dueBreak(forms, "the first byte begins word 0", 1, 0, 0);
    }

    // Promise 2

    private static void unitTakes32To126() {
        CHECK.by("2: a byte comes behind the text: true");
        PageForms forms = new PageForms();
        for (int u = 32; u <= 126; u++) {
            CHECK.due("unit(" + u + ")", forms.unit(u), true);
        }
        dueBreak(forms, "33 to 126 are one word", 94, 0, 0);
        CHECK.due("its length is 94", forms.broken(93), -2);
    }

    private static void unitRefusesWhatIsTooSmall() {
        CHECK.by("2: false when it is not 32 to 126, too small");
        PageForms forms = new PageForms();
        for (int u : TOO_SMALL) {
            CHECK.due("unit(" + u + ")", forms.unit(u), false);
        }
        for (int u = -130; u < 32; u++) {
            CHECK.due("unit(" + u + ")", forms.unit(u), false);
        }
        dueBreak(forms, "all refused", 1, 0);
    }

    private static void unitRefusesWhatIsTooLarge() {
        CHECK.by("2: false when it is not 32 to 126, too large");
        PageForms forms = new PageForms();
        for (int u = 127; u < 300; u++) {
            CHECK.due("unit(" + u + ")", forms.unit(u), false);
        }
        // Each of these would be a good byte if it were cut down to eight or sixteen bits.
        int[] large = {32 + 256, 97 + 256, 97 + 65536, Integer.MAX_VALUE - 158, Integer.MAX_VALUE};
        for (int u : large) {
            CHECK.due("unit(" + u + ")", forms.unit(u), false);
        }
        dueBreak(forms, "all refused", 1, 0);
    }

    private static void refusedByteIsNotInTheText() {
        CHECK.by("2: false, doing nothing, when it is not 32 to 126");
        int[] wrong = {Integer.MIN_VALUE, -1, 0, 10, 31, 127, 32 + 256, Integer.MAX_VALUE};
        for (int u : wrong) {
            PageForms forms = with("ab");
            CHECK.due("unit(" + u + ")", forms.unit(u), false);
            dueBreak(forms, "it is no part of the word", 2, 0, 0);
            write(forms, "c");
            dueBreak(forms, "it parts no word", 3, 0, 0);
            write(forms, " ");
            CHECK.due("unit(" + u + ")", forms.unit(u), false);
            dueBreak(forms, "it begins no word", 3, 0, 0);
        }
    }

    private static void refusedByteTakesNoRoom() {
        CHECK.by("2: false, doing nothing: there are not more bytes then");
        PageForms forms = with("x".repeat(99));
        for (int i = 0; i < 50; i++) {
            CHECK.due("unit(31)", forms.unit(31), false);
            CHECK.due("unit(127)", forms.unit(127), false);
        }
        write(forms, " " + "x".repeat(100));
        CHECK.due("behind 200", forms.unit(120), false);
        dueBreak(forms, "99 and 100", 100, 1, 0, 1);
    }

    private static void unitTakesTwoHundred() {
        CHECK.by("2: there are 200: the last of them is taken");
        PageForms forms = with("x".repeat(99) + " " + "x".repeat(99));
        CHECK.due("unit 199", forms.unit(120), true);
        dueBreak(forms, "it is part of the last word", 100, 1, 0, 1);
        PageForms single = with("x".repeat(98) + " " + "x".repeat(99) + " ");
        CHECK.due("unit 199", single.unit(120), true);
        dueBreak(single, "it is a word of its own", 99, 1 + 98 * 98, 0, 1, 2);
    }

    private static void unitRefusesTheByteBehindTwoHundred() {
        CHECK.by("2: false, doing nothing, when there are 200");
        PageForms forms = with("x".repeat(99) + " " + "x".repeat(100));
        int[] more = {32, 33, 120, 126, 31, 127};
        for (int u : more) {
            CHECK.due("unit(" + u + ") behind 200", forms.unit(u), false);
        }
        dueBreak(forms, "the last word is no longer", 100, 1, 0, 1);
        PageForms blankLast = with("x".repeat(99) + " " + "x".repeat(99) + " ");
        CHECK.due("unit(120) behind 200", blankLast.unit(120), false);
        dueBreak(blankLast, "no further word", 99, 0, 0, 1);
    }

    private static void unitCountsBlanksToo() {
        CHECK.by("2: there are 200, blanks among them");
        PageForms forms = with(" ".repeat(200));
        CHECK.due("a letter behind 200 blanks", forms.unit(120), false);
        CHECK.due("a blank behind 200 blanks", forms.unit(32), false);
        dueBreak(forms, "blanks alone", 1, 0);
    }

    private static void takenByteLeavesTheBreak() {
        CHECK.by("2: What was broken stays, the byte being taken");
        PageForms forms = with("aa bb");
        dueBreak(forms, "two", 3, 2, 0, 1);
        write(forms, "b");
        dueKept(forms, "a letter behind", 2, 0, 1);
        write(forms, " ");
        dueKept(forms, "a blank behind", 2, 0, 1);
        write(forms, "cc dddd");
        dueKept(forms, "words behind, one of them too long", 2, 0, 1);
        PageForms empty = new PageForms();
        dueBreak(empty, "no words", 3, 0);
        write(empty, "a");
        dueKept(empty, "a first word behind a break of none", 0);
    }

    private static void refusedByteLeavesTheBreak() {
        CHECK.by("2: What was broken stays, the byte being refused");
        PageForms forms = with("aa bb");
        dueBreak(forms, "two", 3, 2, 0, 1);
        CHECK.due("unit(31)", forms.unit(31), false);
        CHECK.due("unit(127)", forms.unit(127), false);
        dueKept(forms, "bytes refused", 2, 0, 1);
        PageForms full = with("x".repeat(99) + " " + "x".repeat(100));
        dueBreak(full, "full", 100, 1, 0, 1);
        CHECK.due("unit(120) behind 200", full.unit(120), false);
        dueKept(full, "a byte refused behind 200", 1, 0, 1);
    }

    private static void unitGoesOnWithTheLastWord() {
        CHECK.by("2: A byte comes behind the text");
        PageForms forms = with("ab");
        dueBreak(forms, "ab", 3, 1, 0);
        write(forms, "c");
        dueBreak(forms, "abc", 3, 0, 0);
        write(forms, " ");
        write(forms, "d");
        dueBreak(forms, "abc d", 3, 4, 0, 1);
    }

    // Promise 3: arguments

    private static void brokenTakesWidths1And100() {
        CHECK.by("3: lines of a width 1 to 100");
        dueBreak(with("a b"), "width 1", 1, 0, 0, 1);
        dueBreak(with("a b"), "width 100", 100, 97 * 97, 0);
        PageForms forms = with("a");
        for (int width = 1; width <= 100; width++) {
            dueBreak(forms, "one word", width, (width - 1) * (width - 1), 0);
        }
    }

    private static void brokenRefusesWidthsTooSmall() {
        CHECK.by("3: -1 when the width is not so, too small");
        PageForms forms = with("aa");
        for (int width : TOO_SMALL) {
            CHECK.due("broken(" + width + ")", forms.broken(width), -1);
            CHECK.due("no words", new PageForms().broken(width), -1);
        }
    }

    private static void brokenRefusesWidthsTooLarge() {
        CHECK.by("3: -1 when the width is not so, too large");
        PageForms forms = with("aa");
        int[] large = {101, 102, 128, 256, 257, 65537, Integer.MAX_VALUE - 1, Integer.MAX_VALUE};
        for (int width : large) {
            CHECK.due("broken(" + width + ")", forms.broken(width), -1);
            CHECK.due("no words", new PageForms().broken(width), -1);
        }
    }

    private static void refusedWidthLeavesTheBreak() {
        CHECK.by("3: -1, doing nothing, when the width is not so");
        int[] wrong = {Integer.MIN_VALUE, -5, -1, 0, 101, 102, Integer.MAX_VALUE};
        PageForms forms = with("aa bb cc");
        dueBreak(forms, "three words", 5, 9, 0, 2);
        for (int width : wrong) {
            CHECK.due("broken(" + width + ")", forms.broken(width), -1);
            dueKept(forms, "behind broken(" + width + ")", 9, 0, 2);
        }
        // The break stays the old text's, although there are more words now.
        write(forms, " dd");
        CHECK.due("broken(0)", forms.broken(0), -1);
        dueKept(forms, "more words, none broken anew", 9, 0, 2);
        dueBreak(forms, "then broken anew", 5, 0, 0, 2);
    }

    private static void refusedWidthComesBeforeLongWords() {
        CHECK.by("3: -1 when the width is not so, though a word is longer as well");
        PageForms forms = with("a".repeat(150));
        CHECK.due("broken(0)", forms.broken(0), -1);
        CHECK.due("broken(-1)", forms.broken(-1), -1);
        CHECK.due("broken(101)", forms.broken(101), -1);
        CHECK.due("broken(100)", forms.broken(100), -2);
    }

    private static void brokenWithoutText() {
        CHECK.by("3: how many lines (0 without words), no text");
        PageForms forms = new PageForms();
        for (int width = 1; width <= 100; width++) {
            CHECK.due("broken(" + width + ")", forms.broken(width), 0);
        }
        dueKept(forms, "no text", 0);
    }

    private static void brokenOfBlanksAlone() {
        CHECK.by("3: how many lines (0 without words), blanks alone");
        dueBreak(with(" "), "one blank", 1, 0);
        PageForms forms = with("   ");
        dueBreak(forms, "more blanks than the width", 1, 0);
        dueBreak(forms, "fewer blanks than the width", 100, 0);
    }

    private static void brokenTakesAWordAsLongAsTheWidth() {
        CHECK.by("3: -2 when a word is longer: as long is not longer");
        for (int length = 1; length <= 100; length++) {
            dueBreak(with("a".repeat(length)), "one word", length, 0, 0);
        }
        dueBreak(with("aa bbbb cc"), "among others", 4, 8, 0, 1, 2);
    }

    private static void brokenFindsAWordOneTooLong() {
        CHECK.by("3: -2 when a word is longer, by one");
        for (int width = 1; width <= 100; width++) {
            CHECK.due("a word of " + (width + 1), with("a".repeat(width + 1)).broken(width), -2);
        }
        CHECK.due("too long first", with("aaa b c").broken(2), -2);
        CHECK.due("too long between", with("a bbb c").broken(2), -2);
        CHECK.due("too long last", with("a b ccc").broken(2), -2);
    }

    private static void brokenFindsWordsLongerThanAllWidths() {
        CHECK.by("3: -2 when a word is longer, than any line can be");
        CHECK.due("a word of 101", with("a".repeat(101)).broken(100), -2);
        CHECK.due("a word of 200", with("a".repeat(200)).broken(100), -2);
        CHECK.due("a word of 200", with("a".repeat(200)).broken(1), -2);
    }

    private static void tooLongWordLeavesNothingBroken() {
        CHECK.by("3: -2 (then nothing is broken)");
        PageForms forms = with("aa bbbb cc");
        dueBreak(forms, "broken first", 4, 8, 0, 1, 2);
        CHECK.due("broken(3)", forms.broken(3), -2);
        dueKept(forms, "then nothing is", 0);
        CHECK.due("line(1)", forms.line(1), -1);
        CHECK.due("line(2)", forms.line(2), -1);
        CHECK.due("broken(0)", forms.broken(0), -1);
        dueKept(forms, "nor behind a refused width", 0);
        CHECK.due("broken(3) again", forms.broken(3), -2);
        dueKept(forms, "nor behind another", 0);
    }

    private static void tooLongWordLeavesTheText() {
        CHECK.by("3: -2 (then nothing is broken): the text stays");
        PageForms forms = with("aa bbbb c");
        CHECK.due("broken(1)", forms.broken(1), -2);
        dueBreak(forms, "a width that does", 4, 4 + 9, 0, 1, 2);
        CHECK.due("broken(3)", forms.broken(3), -2);
        write(forms, "c");
        dueBreak(forms, "the last word goes on", 4, 8, 0, 1, 2);
    }

    // Promise 3: the break

    private static void blanksOnlyPartWords() {
        CHECK.by("Terms: WORDS: the text's bytes but blanks, as they stand between blanks");
        dueBreak(with("  a   bb  "), "blanks round words", 4, 0, 0);
        dueBreak(with("    a"), "blanks before", 1, 0, 0);
        dueBreak(with("a    "), "blanks behind", 1, 0, 0);
        dueBreak(with("a     b"), "one blank is left of many", 3, 0, 0);
        dueBreak(with("a~!b"), "other signs are no blanks", 4, 0, 0);
    }

    private static void lineMayBeFullToItsEnd() {
        CHECK.by("Terms: its REST is the WIDTH less what it holds, 0");
        dueBreak(with("aa bb"), "two words fill it", 5, 0, 0);
        dueBreak(with("a b c"), "three words fill it", 5, 0, 0);
        dueBreak(with("aa bb cc dd"), "two lines are full", 5, 0, 0, 2);
    }

    private static void lineHasNoRoomForOneMore() {
        CHECK.by("Terms: lines hold words, one blank between two: one sign too many");
        dueBreak(with("aa bb"), "the blank counts", 4, 8, 0, 1);
        dueBreak(with("a b c"), "both blanks count", 4, 1 + 9, 0, 2);
    }

    private static void brokenCountsTheLastLineToo() {
        CHECK.by("Terms: the sum of the squares of all RESTS (of the last line, too)");
        // Without the last line's rest the first line would hold two words.
        dueBreak(with("aaaa b c"), "last line", 6, 4 + 9, 0, 1);
        dueBreak(with("a"), "one word", 9, 64, 0);
    }

    private static void brokenIsNotGreedy() {
        CHECK.by("Terms: the sum of the squares is least");
        // Filling each line as far as can be would leave 0 + 16 + 1 and 4 + 9 + 0 + 16.
        dueBreak(with("aaa bb cc ddddd"), "not greedy", 6, 9 + 1 + 1, 0, 1, 3);
        dueBreak(with("a bb ccc dddd e ff"), "not greedy", 6, 4 + 9 + 4 + 4, 0, 2, 3, 4);
    }

    private static void brokenTakesMoreWordsFirst() {
        CHECK.by("Terms: of several that in which the first line that differs has more words");
        dueBreak(with("a b c"), "2 and 1, or 1 and 2", 3, 4, 0, 2);
        dueBreak(with("a b c d e"), "of three lines", 3, 4, 0, 2, 4);
        dueBreak(with("aaa b c d"), "the first line is the same", 3, 4, 0, 1, 3);
        dueBreak(with("aa bb cc"), "the first is fuller", 6, 1 + 16, 0, 2);
    }

    private static void mostWords() {
        CHECK.by("3: how many lines, of the most words that 200 bytes can be");
        PageForms forms = with("a ".repeat(100));
        int[] each = new int[100];
        for (int i = 0; i < 100; i++) {
            each[i] = i;
        }
        dueBreak(forms, "100 words in 100 lines", 1, 0, each);
        dueBreak(forms, "100 words in two lines", 99, 0, 0, 50);
        CHECK.due("width 2", forms.broken(2), 100);
        CHECK.due("rest of width 2", forms.rest(), 100);
        CHECK.due("last line", forms.line(99), 99);
        CHECK.due("no line", forms.line(100), -1);
        dueBreak(with(" a".repeat(100)), "a blank first", 99, 0, 0, 50);
    }

    private static void breaksAreThoseOfAllTried() {
        CHECK.by("3: the BREAK of the text, tried by all ways to break it");
        Random random = new Random(20261115);
        for (int round = 0; round < 400; round++) {
            int words = 1 + random.nextInt(11);
            int[] lengths = new int[words];
            StringBuilder text = new StringBuilder();
            int longest = 0;
            for (int i = 0; i < words; i++) {
                lengths[i] = 1 + random.nextInt(1 + round % 7);
                longest = Math.max(longest, lengths[i]);
                text.append(i == 0 ? "" : " ").append("w".repeat(lengths[i]));
            }
            int width = longest + random.nextInt(14);
            dueAsTried(text.toString(), lengths, width);
        }
    }

    /** Bit i of a cut says that a line begins at word i + 1. */
    private static void dueAsTried(String text, int[] lengths, int width) {
        long best = Long.MAX_VALUE;
        int bestCut = 0;
        for (int cut = 0; cut < 1 << (lengths.length - 1); cut++) {
            long sum = sumOf(lengths, width, cut);
            if (sum >= 0 && (sum < best || sum == best && hasMoreWordsFirst(cut, bestCut))) {
                best = sum;
                bestCut = cut;
            }
        }
        int[] firsts = new int[Integer.bitCount(bestCut) + 1];
        int lines = 1;
        for (int i = 1; i < lengths.length; i++) {
            if ((bestCut >> (i - 1) & 1) == 1) {
                firsts[lines] = i;
                lines++;
            }
        }
        dueBreak(with(text), "'" + text + "'", width, (int) best, firsts);
    }

    private static long sumOf(int[] lengths, int width, int cut) {
        long sum = 0;
        int rest = width - lengths[0];
        for (int i = 1; i < lengths.length; i++) {
            if ((cut >> (i - 1) & 1) == 1) {
                sum += (long) rest * rest;
                rest = width - lengths[i];
            } else {
                rest -= 1 + lengths[i];
            }
            if (rest < 0) {
                return -1;
            }
        }
        return sum + (long) rest * rest;
    }

    /** Where two cuts part first, the one without a line's begin has more words in its line. */
    private static boolean hasMoreWordsFirst(int cut, int other) {
        int lowest = Integer.lowestOneBit(cut ^ other);
        return (cut & lowest) == 0;
    }

    // Promise 4

    private static void lineBelowZero() {
        CHECK.by("4: -1 when there is none such, too small");
        PageForms forms = with("aa bb");
        dueBreak(forms, "two lines", 3, 2, 0, 1);
        int[] small = {Integer.MIN_VALUE, Integer.MIN_VALUE + 1, -2, -1};
        for (int k : small) {
            CHECK.due("line(" + k + ")", forms.line(k), -1);
            CHECK.due("line(" + k + ") of a new one", new PageForms().line(k), -1);
        }
    }

    private static void lineBehindTheLast() {
        CHECK.by("4: -1 when there is none such, too large");
        PageForms forms = with("aa bb");
        dueBreak(forms, "two lines", 3, 2, 0, 1);
        int[] large = {2, 3, 99, 100, 101, 200, Integer.MAX_VALUE - 1, Integer.MAX_VALUE};
        for (int k : large) {
            CHECK.due("line(" + k + ")", forms.line(k), -1);
        }
        PageForms most = with("a ".repeat(100));
        CHECK.due("100 lines", most.broken(1), 100);
        CHECK.due("line(99) of 100", most.line(99), 99);
        CHECK.due("line(100) of 100", most.line(100), -1);
        CHECK.due("line(101) of 100", most.line(101), -1);
    }

    private static void lineWithoutABreak() {
        CHECK.by("4: -1 when there is none such, nothing being broken");
        CHECK.due("new", new PageForms().line(0), -1);
        CHECK.due("a text that was never broken", with("aa bb").line(0), -1);
        PageForms refused = with("aa bb");
        CHECK.due("broken(0)", refused.broken(0), -1);
        CHECK.due("a refused width", refused.line(0), -1);
        PageForms blanks = with("  ");
        CHECK.due("broken(1)", blanks.broken(1), 0);
        CHECK.due("a break of no words", blanks.line(0), -1);
    }

    private static void lineIsOfTheLatestBreak() {
        CHECK.by("4: line k of the BREAK found latest");
        PageForms forms = with("aa bb cc dd");
        dueBreak(forms, "four lines", 2, 0, 0, 1, 2, 3);
        dueBreak(forms, "then two", 5, 0, 0, 2);
        CHECK.due("line(3) is gone", forms.line(3), -1);
        dueBreak(forms, "then four again", 2, 0, 0, 1, 2, 3);
    }

    // Promise 5

    private static void restWithoutABreak() {
        CHECK.by("5: 0 without one");
        CHECK.due("new", new PageForms().rest(), 0);
        CHECK.due("a text that was never broken", with("aa bb").rest(), 0);
        PageForms refused = with("aa bb");
        CHECK.due("broken(101)", refused.broken(101), -1);
        CHECK.due("a refused width", refused.rest(), 0);
        PageForms forms = with("a bbb");
        dueBreak(forms, "broken first", 4, 9 + 1, 0, 1);
        CHECK.due("broken(2)", forms.broken(2), -2);
        CHECK.due("a word too long", forms.rest(), 0);
        PageForms blanks = with("  ");
        CHECK.due("broken(100)", blanks.broken(100), 0);
        CHECK.due("a break of no words", blanks.rest(), 0);
    }

    private static void restOfFullLines() {
        CHECK.by("5: The sum of squares of that, 0 with one");
        dueBreak(with("aa bb cc dd"), "full lines", 5, 0, 0, 2);
    }

    private static void restIsOfTheLatestBreak() {
        CHECK.by("5: The sum of squares of that, the latest");
        PageForms forms = with("aa bb");
        CHECK.due("broken(4)", forms.broken(4), 2);
        CHECK.due("rest", forms.rest(), 8);
        CHECK.due("broken(7)", forms.broken(7), 1);
        CHECK.due("rest", forms.rest(), 4);
        CHECK.due("broken(5)", forms.broken(5), 1);
        CHECK.due("rest", forms.rest(), 0);
    }

    private static void greatRests() {
        CHECK.by("5: The sum of squares of that, as great as it gets");
        PageForms alone = with("a " + "b".repeat(100) + " c");
        dueBreak(alone, "no line holds two", 100, 99 * 99 + 99 * 99, 0, 1, 2);
        PageForms halves = with(("a".repeat(51) + " ").repeat(3) + "a".repeat(44));
        dueBreak(halves, "200 bytes", 100, 49 * 49 + 49 * 49 + 4 * 4, 0, 1, 2);
    }

    // Promise 6

    private static void clearEmptiesTheText() {
        CHECK.by("6: The text is empty");
        PageForms forms = with("aa bb");
        forms.clear();
        dueBreak(forms, "behind clear", 1, 0);
        write(forms, "c");
        dueBreak(forms, "a new text", 3, 4, 0);
        PageForms tooLong = with("a".repeat(150));
        tooLong.clear();
        dueBreak(tooLong, "no long word is left", 1, 0);
    }

    private static void clearLeavesNothingBroken() {
        CHECK.by("6: nothing is broken");
        PageForms forms = with("aa bb");
        dueBreak(forms, "two", 3, 2, 0, 1);
        forms.clear();
        dueKept(forms, "behind clear", 0);
        CHECK.due("line(1)", forms.line(1), -1);
        CHECK.due("broken(0)", forms.broken(0), -1);
        dueKept(forms, "behind a refused width", 0);
    }

    private static void clearMakesRoomForTwoHundred() {
        CHECK.by("6: The text is empty, having been full");
        PageForms forms = with("x".repeat(200));
        forms.clear();
        write(forms, "x".repeat(99) + " " + "x".repeat(100));
        CHECK.due("unit behind 200", forms.unit(120), false);
        dueBreak(forms, "all new", 100, 1, 0, 1);
    }

    private static void clearPartsWords() {
        CHECK.by("6: The text is empty: no word goes on behind it");
        PageForms forms = with("aaa");
        forms.clear();
        write(forms, "b");
        dueBreak(forms, "nothing of the old word", 1, 0, 0);
    }

    private static void clearLeavesNoOldSums() {
        CHECK.by("6: The text is empty: a shorter one is broken as if it were the first");
        PageForms forms = with("a bb a bb a bb");
        CHECK.due("broken(4)", forms.broken(4), 3);
        CHECK.due("broken(2)", forms.broken(2), 6);
        CHECK.due("rest", forms.rest(), 3);
        for (int words = 5; words >= 1; words--) {
            forms.clear();
            write(forms, "a ".repeat(words));
            CHECK.due(words + " words", forms.broken(2), words);
            CHECK.due(words + " rests of 1", forms.rest(), words);
        }
    }

    private static void clearOfNothing() {
        CHECK.by("6: The text is empty, having been so");
        PageForms forms = new PageForms();
        forms.clear();
        forms.clear();
        dueKept(forms, "cleared twice", 0);
        dueBreak(forms, "cleared twice", 1, 0);
        write(forms, "a");
        dueBreak(forms, "a new text", 1, 0, 0);
    }
}
