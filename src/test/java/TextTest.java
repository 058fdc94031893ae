import java.util.Random;

/** Promises 1 to 6: the text and its break. */
public final class TextTest {
    private static final Check CHECK = new Check("TextTest");

    public static void main(String[] args) {
        newObjectHasNoText();
        unitTakesItsBytesAlone();
        unitTakesTwoHundred();
        unitLeavesTheBreak();
        unitGoesOnWithTheLastWord();
        brokenLooksAtTheWidth();
        brokenWithoutWords();
        brokenFindsTooLongWords();
        brokenCountsTheLastLineToo();
        brokenIsNotGreedy();
        brokenTakesMoreWordsFirst();
        blanksOnlyPartWords();
        mostWordsAndLongestSums();
        lineAnswersForItsLinesAlone();
        clearForgetsAll();
        clearPartsWords();
        breaksAreThoseOfAllTried();
        CHECK.end();
    }

    private static PageForms with(String text) {
        PageForms forms = new PageForms();
        write(forms, text);
        return forms;
    }

    private static void write(PageForms forms, String text) {
        for (int i = 0; i < text.length(); i++) {
            CHECK.due("unit of '" + text + "'", forms.unit(text.charAt(i)), true);
        }
    }

    private static void dueBreak(PageForms forms, String what, int width, int rest, int... firsts) {
        CHECK.due(what + ": broken(" + width + ")", forms.broken(width), firsts.length);
        dueKept(forms, what, rest, firsts);
    }

    private static void dueKept(PageForms forms, String what, int rest, int... firsts) {
        for (int k = 0; k < firsts.length; k++) {
            CHECK.due(what + ": line(" + k + ")", forms.line(k), firsts[k]);
        }
        CHECK.due(what + ": line behind the last", forms.line(firsts.length), -1);
        CHECK.due(what + ": line(-1)", forms.line(-1), -1);
        CHECK.due(what + ": rest()", forms.rest(), rest);
    }

    private static void newObjectHasNoText() {
        PageForms forms = new PageForms();
        dueKept(forms, "new", 0);
        dueBreak(forms, "new", 10, 0);
    }

    private static void unitTakesItsBytesAlone() {
        PageForms forms = new PageForms();
        int[] wrong = {Integer.MIN_VALUE, -1, 0, 10, 31, 127, 128, 255, 32 + 256, 97 + 256,
            Integer.MAX_VALUE};
        for (int u : wrong) {
            CHECK.due("unit(" + u + ")", forms.unit(u), false);
        }
        dueBreak(forms, "refused bytes", 5, 0);
        for (int u = 32; u <= 126; u++) {
            CHECK.due("unit(" + u + ")", forms.unit(u), true);
        }
        dueBreak(forms, "33 to 126 are one word", 94, 0, 0);
        CHECK.due("a word of 94", forms.broken(93), -2);
        PageForms between = with("ab");
        CHECK.due("unit(31)", between.unit(31), false);
        write(between, "c");
        dueBreak(between, "a refused byte parts no word", 4, 1, 0);
    }

    private static void unitTakesTwoHundred() {
        PageForms forms = new PageForms();
        for (int i = 0; i < 200; i++) {
            CHECK.due("unit " + i, forms.unit(i % 100 == 99 ? 32 : 120), true);
        }
        CHECK.due("unit 200", forms.unit(120), false);
        CHECK.due("unit 201", forms.unit(32), false);
        dueBreak(forms, "two words of 99", 100, 2, 0, 1);
        forms.clear();
        for (int i = 0; i < 200; i++) {
            CHECK.due("unit " + i + " behind clear", forms.unit(32), true);
        }
        CHECK.due("unit 200 behind clear", forms.unit(32), false);

        PageForms blanks = new PageForms();
        for (int i = 0; i < 200; i++) {
            CHECK.due("blank " + i, blanks.unit(32), true);
        }
        CHECK.due("blanks count, too", blanks.unit(120), false);
        dueBreak(blanks, "blanks alone", 1, 0);
    }

    private static void unitLeavesTheBreak() {
        PageForms forms = with("aa bb");
        dueBreak(forms, "two", 3, 2, 0, 1);
        write(forms, "b cc dddd");
        dueKept(forms, "two and more behind", 2, 0, 1);
        CHECK.due("unit(127)", forms.unit(127), false);
        dueKept(forms, "two and a refused one", 2, 0, 1);
    }

    private static void unitGoesOnWithTheLastWord() {
        PageForms forms = with("ab");
        dueBreak(forms, "ab", 3, 1, 0);
        write(forms, "c");
        dueBreak(forms, "abc", 3, 0, 0);
        write(forms, " ");
        write(forms, "d");
        dueBreak(forms, "abc d", 3, 4, 0, 1);
    }

    private static void brokenLooksAtTheWidth() {
        PageForms forms = with("aa bb cc");
        dueBreak(forms, "three", 5, 9, 0, 2);
        int[] wrong = {Integer.MIN_VALUE, -5, -1, 0, 101, 102, Integer.MAX_VALUE};
        for (int width : wrong) {
            CHECK.due("broken(" + width + ")", forms.broken(width), -1);
            dueKept(forms, "behind broken(" + width + ")", 9, 0, 2);
        }
        CHECK.due("no words, wrong width", new PageForms().broken(0), -1);
        dueBreak(with("a b"), "width 1", 1, 0, 0, 1);
        dueBreak(with("a b"), "width 100", 100, 97 * 97, 0);
    }

    private static void brokenWithoutWords() {
        PageForms forms = with("   ");
        dueBreak(forms, "blanks", 1, 0);
        dueBreak(forms, "blanks", 100, 0);
    }

    private static void brokenFindsTooLongWords() {
        PageForms forms = with("aa bbbb cc");
        dueBreak(forms, "as long as the width", 4, 8, 0, 1, 2);
        CHECK.due("broken(3)", forms.broken(3), -2);
        dueKept(forms, "behind a word too long", 0);
        dueBreak(forms, "and again", 4, 8, 0, 1, 2);
        CHECK.due("broken(0) behind", forms.broken(0), -1);
        dueKept(forms, "behind a wrong width", 8, 0, 1, 2);
        CHECK.due("too long first", with("aaa b").broken(2), -2);
        CHECK.due("too long last", with("a bbb").broken(2), -2);
    }

    private static void brokenCountsTheLastLineToo() {
        // Without the last line's rest the first line would hold two words.
        dueBreak(with("aaaa b c"), "last line", 6, 4 + 9, 0, 1);
        dueBreak(with("a"), "one word", 9, 64, 0);
    }

    private static void brokenIsNotGreedy() {
        // Filling each line as far as can be would leave 0 + 16 + 1 and 4 + 9 + 0 + 16.
        dueBreak(with("aaa bb cc ddddd"), "not greedy", 6, 9 + 1 + 1, 0, 1, 3);
        dueBreak(with("a bb ccc dddd e ff"), "not greedy", 6, 4 + 9 + 4 + 4, 0, 2, 3, 4);
    }

    private static void brokenTakesMoreWordsFirst() {
        dueBreak(with("a b c"), "2 and 1, or 1 and 2", 3, 4, 0, 2);
        dueBreak(with("a b c d e"), "of three lines", 3, 4, 0, 2, 4);
        dueBreak(with("aa bb cc dd"), "even ones", 5, 0, 0, 2);
        dueBreak(with("aa bb cc"), "the first is fuller", 6, 1 + 16, 0, 2);
    }

    private static void blanksOnlyPartWords() {
        dueBreak(with("  a   bb  "), "blanks round words", 4, 0, 0);
        dueBreak(with("a~!b"), "other signs are no blanks", 4, 0, 0);
    }

    private static void mostWordsAndLongestSums() {
        PageForms forms = new PageForms();
        for (int i = 0; i < 200; i++) {
            CHECK.due("unit " + i, forms.unit(i % 2 == 0 ? 97 : 32), true);
        }
        int[] each = new int[100];
        for (int i = 0; i < 100; i++) {
            each[i] = i;
        }
        dueBreak(forms, "100 words in 100 lines", 1, 0, each);
        dueBreak(forms, "100 words in two lines", 99, 0, 0, 50);
        CHECK.due("width 2", forms.broken(2), 100);
        CHECK.due("rest of width 2", forms.rest(), 100);
        CHECK.due("last line", forms.line(99), 99);
        CHECK.due("no line", forms.line(100), -1);
    }

    private static void lineAnswersForItsLinesAlone() {
        PageForms forms = with("aa bb cc dd");
        dueBreak(forms, "four lines", 2, 0, 0, 1, 2, 3);
        dueBreak(forms, "then two", 5, 0, 0, 2);
        CHECK.due("line(3) is gone", forms.line(3), -1);
        CHECK.due("line(MIN)", forms.line(Integer.MIN_VALUE), -1);
        CHECK.due("line(MAX)", forms.line(Integer.MAX_VALUE), -1);
    }

    private static void clearForgetsAll() {
        PageForms forms = with("aa bb");
        dueBreak(forms, "two", 3, 2, 0, 1);
        forms.clear();
        dueKept(forms, "behind clear", 0);
        dueBreak(forms, "behind clear", 3, 0);
        write(forms, "c");
        dueBreak(forms, "a new text", 3, 4, 0);
    }

    private static void clearPartsWords() {
        PageForms forms = with("aaa");
        forms.clear();
        write(forms, "b");
        dueBreak(forms, "nothing of the old word", 1, 0, 0);
        forms.box(3);
        forms.code(7);
        forms.grid(2, 2);
        forms.clear();
        CHECK.due("boxes stay", forms.pages(3, 0), 1);
        CHECK.due("the code stays", forms.rows(), 2);
        CHECK.due("the grid stays", forms.lines(), 6);
    }

    private static void breaksAreThoseOfAllTried() {
        Random random = new Random(20261115);
        for (int round = 0; round < 400; round++) {
            int words = 1 + random.nextInt(11);
            int[] lengths = new int[words];
            StringBuilder text = new StringBuilder();
            int longest = 0;
            for (int i = 0; i < words; i++) {
                lengths[i] = 1 + random.nextInt(1 + round % 7);
                longest = Math.max(longest, lengths[i]);
                text.append(i == 0 ? "" : " ").append("w".repeat(lengths[i]));
            }
            int width = longest + random.nextInt(14);
            dueAsTried(text.toString(), lengths, width);
        }
    }

    /** Bit i of a cut says that a line begins at word i + 1. */
    private static void dueAsTried(String text, int[] lengths, int width) {
        long best = Long.MAX_VALUE;
        int bestCut = 0;
        for (int cut = 0; cut < 1 << (lengths.length - 1); cut++) {
            long sum = sumOf(lengths, width, cut);
            if (sum >= 0 && (sum < best || sum == best && hasMoreWordsFirst(cut, bestCut))) {
                best = sum;
                bestCut = cut;
            }
        }
        int[] firsts = new int[Integer.bitCount(bestCut) + 1];
        int lines = 1;
        for (int i = 1; i < lengths.length; i++) {
            if ((bestCut >> (i - 1) & 1) == 1) {
                firsts[lines] = i;
                lines++;
            }
        }
        dueBreak(with(text), "'" + text + "'", width, (int) best, firsts);
    }

    private static long sumOf(int[] lengths, int width, int cut) {
        long sum = 0;
        int rest = width - lengths[0];
        for (int i = 1; i < lengths.length; i++) {
            if ((cut >> (i - 1) & 1) == 1) {
                sum += (long) rest * rest;
                rest = width - lengths[i];
            } else {
                rest -= 1 + lengths[i];
            }
            if (rest < 0) {
                return -1;
            }
        }
        return sum + (long) rest * rest;
    }

    /** Where two cuts part first, the one without a line's begin has more words in its line. */
    private static boolean hasMoreWordsFirst(int cut, int other) {
        int lowest = Integer.lowestOneBit(cut ^ other);
        return (cut & lowest) == 0;
    }
}
