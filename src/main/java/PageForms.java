/**
 * Pages of puzzles: words broken into lines, boxes put onto pages, grids with cages drawn by
 * lines, codes of dark squares that mend one wrong square.
 */
public final class PageForms {
    private static final int NONE = -1;

    private final Text text = new Text();
    private final Boxes boxes = new Boxes();
    private final Grid cells = new Grid();
    private final Code squares = new Code();

    public PageForms() {
    }

    public boolean unit(int u) {
        return text.append(u);
    }

    public int broken(int width) {
        return text.breakInto(width);
    }

    public int line(int k) {
        return text.firstWordOf(k);
    }

    public int rest() {
        return text.sumOfSquares();
    }

    public void clear() {
        text.empty();
    }

    public int box(int height) {
        return boxes.add(height);
    }

    public int pages(int height, int gap) {
        return boxes.countPages(height, gap);
    }

    public int put(int box, int height, int gap, int what) {
        return boxes.placeOf(box, height, gap, what);
    }

    public boolean grid(int width, int height) {
        return cells.resize(width, height);
    }

    public boolean cage(int cell, int cage) {
        return cells.mark(cell, cage);
    }

    public int lines() {
        return cells.countLines();
    }

    public int drawn(int k, int what) {
        return cells.partOfLine(k, what);
    }

    public boolean code(int b) {
        return squares.append(b);
    }

    public int rows() {
        return squares.countRows();
    }

    public boolean dark(int x, int y) {
        return squares.isDark(x, y);
    }

    public boolean spoil(int x, int y) {
        return squares.turnOver(x, y);
    }

    public int read() {
        return squares.mend();
    }

    public int byteAt(int i) {
        return squares.toldByte(i);
    }

    public void wipe() {
        squares.empty();
    }

    /**
     * The text and the break found latest. A break depends on the words' lengths alone, so these
     * are kept in place of the bytes.
     */
    private static final class Text {
        private static final int BLANK = 32;
        private static final int LAST_BYTE = 126;
        private static final int MAX_BYTES = 200;
        private static final int MAX_WIDTH = 100;
        private static final int TOO_LONG = -2;
        // Two words have a blank between them, so every second byte can begin one at most.
        private static final int MAX_WORDS = MAX_BYTES / 2;

        private int bytes = 0;
        private int words = 0;
        private boolean inWord = false;
        private final int[] lengths = new int[MAX_WORDS];

        private int lineCount = 0;
        private int squaresSum = 0;
        private final int[] firstWords = new int[MAX_WORDS];

        // Of the words from i on: the least sum, and the word that begins the line behind i's.
        private final int[] leastSum = new int[MAX_WORDS + 1];
        private final int[] nextLine = new int[MAX_WORDS + 1];

        private boolean append(int u) {
            if (u < BLANK || u > LAST_BYTE || bytes >= MAX_BYTES) {
                return false;
            }
            bytes++;
            if (u == BLANK) {
                inWord = false;
            } else {
                appendLetter();
            }
            return true;
        }

        private void appendLetter() {
            if (inWord && words > 0) {
                lengths[words - 1]++;
            } else if (words < MAX_WORDS) {
                lengths[words] = 1;
                words++;
                inWord = true;
            }
        }

        private void empty() {
            bytes = 0;
            words = 0;
            inWord = false;
            forgetBreak();
        }

        private void forgetBreak() {
            lineCount = 0;
            squaresSum = 0;
        }

        private int breakInto(int width) {
            if (width < 1 || width > MAX_WIDTH) {
                return NONE;
            }
            forgetBreak();
            if (hasWordLongerThan(width)) {
                return TOO_LONG;
            }
            findLeastSums(width);
            keepBreak();
            return lineCount;
        }

        private boolean hasWordLongerThan(int width) {
            for (int i = 0; i < words; i++) {
                if (lengths[i] > width) {
                    return true;
                }
            }
            return false;
        }

        // From the last word back to the first, so that what follows a line is known already.
        private void findLeastSums(int width) {
            leastSum[words] = 0;
            for (int first = words - 1; first >= 0; first--) {
                findBestLine(first, width);
            }
        }

        private void findBestLine(int first, int width) {
            int left = width - lengths[first];
            leastSum[first] = left * left + leastSum[first + 1];
            nextLine[first] = first + 1;
            for (int last = first + 1; last < words; last++) {
                left -= 1 + lengths[last];
                if (left < 0) {
                    return;
                }
                int sum = left * left + leastSum[last + 1];
                // Of equal sums the longer line counts, and it comes later here.
                if (sum <= leastSum[first]) {
                    leastSum[first] = sum;
                    nextLine[first] = last + 1;
                }
            }
        }

        private void keepBreak() {
            int first = 0;
            while (first < words && lineCount < MAX_WORDS) {
                firstWords[lineCount] = first;
                lineCount++;
                first = nextLine[first];
            }
            squaresSum = leastSum[0];
        }

        private int firstWordOf(int k) {
            return k < 0 || k >= lineCount ? NONE : firstWords[k];
        }

        private int sumOfSquares() {
            return squaresSum;
        }
    }

    /** The boxes, and the place of the one that was put latest. */
    private static final class Boxes {
        private static final int MAX_BOXES = 60;
        private static final int MAX_HEIGHT = 1000;
        private static final int MAX_GAP = 100;
        private static final int PAGE = 0;
        private static final int TOP = 1;

        private int count = 0;
        private final int[] heights = new int[MAX_BOXES];
        private int page = NONE;
        private int top = 0;

        private int add(int height) {
            if (!isHeight(height) || count >= MAX_BOXES) {
                return NONE;
            }
            heights[count] = height;
            count++;
            return count - 1;
        }

        private static boolean isHeight(int height) {
            return height >= 1 && height <= MAX_HEIGHT;
        }

        private static boolean isGap(int gap) {
            return gap >= 0 && gap <= MAX_GAP;
        }

        private int countPages(int height, int gap) {
            if (!isHeight(height) || !isGap(gap)) {
                return NONE;
            }
            putFirst(count, height, gap);
            return page + 1;
        }

        private int placeOf(int box, int height, int gap, int what) {
            if (!isHeight(height) || !isGap(gap) || box < 0 || box >= count) {
                return NONE;
            }
            if (what != PAGE && what != TOP) {
                return NONE;
            }
            putFirst(box + 1, height, gap);
            return what == PAGE ? page : top;
        }

        // A box higher than the page needs no case of its own: it fits on no page that is begun,
        // and nothing fits below it.
        private void putFirst(int howMany, int height, int gap) {
            page = NONE;
            int bottom = 0;
            for (int i = 0; i < howMany && i < MAX_BOXES; i++) {
                if (page != NONE && bottom + gap + heights[i] <= height) {
                    top = bottom + gap;
                } else {
                    page++;
                    top = 0;
                }
                bottom = top + heights[i];
            }
        }
    }

    /** The grid's cages, and the line that a walk over its lines looked for latest. */
    private static final class Grid {
        private static final int MAX_SIDE = 8;
        private static final int MAX_CAGE = 9;
        private static final int PARTS = 5;

        private int wide = 1;
        private int high = 1;
        private final int[] cages = new int[MAX_SIDE * MAX_SIDE];
        private final int[] wanted = new int[PARTS];

        private boolean resize(int width, int height) {
            if (!isSide(width) || !isSide(height)) {
                return false;
            }
            wide = width;
            high = height;
            for (int i = 0; i < cages.length; i++) {
                cages[i] = 0;
            }
            return true;
        }

        private static boolean isSide(int side) {
            return side >= 1 && side <= MAX_SIDE;
        }

        private boolean mark(int cell, int cage) {
            if (cell < 0 || cell >= wide * high || cage < 0 || cage > MAX_CAGE) {
                return false;
            }
            cages[cell] = cage;
            return true;
        }

        private int countLines() {
            return walkLines(NONE);
        }

        private int partOfLine(int k, int what) {
            if (k < 0 || what < 0 || what >= PARTS || k >= walkLines(k)) {
                return NONE;
            }
            return wanted[what];
        }

        private int walkLines(int k) {
            int seen = 0;
            for (int y = 0; y <= high; y++) {
                seen = walkRow(true, y, seen, k);
            }
            for (int x = 0; x <= wide; x++) {
                seen = walkRow(false, x, seen, k);
            }
            return seen;
        }

        // A row lies across (row is its y) or stands (row is its x); answers how many lines were
        // seen behind it.
        private int walkRow(boolean across, int row, int seenBefore, int k) {
            int length = across ? wide : high;
            int seen = seenBefore;
            int from = 0;
            for (int to = 1; to <= length; to++) {
                boolean thick = isThick(across, row, from);
                if (to == length || isThick(across, row, to) != thick) {
                    if (seen == k) {
                        keepLine(across, row, from, to, thick);
                    }
                    seen++;
                    from = to;
                }
            }
            return seen;
        }

        private boolean isThick(boolean across, int row, int at) {
            int border = across ? high : wide;
            if (row <= 0 || row >= border) {
                return true;
            }
            int cell = across ? at + wide * row : row + wide * at;
            int before = across ? cell - wide : cell - 1;
            return cages[cell] != cages[before];
        }

        private void keepLine(boolean across, int row, int from, int to, boolean thick) {
            wanted[0] = across ? from : row;
            wanted[1] = across ? row : from;
            wanted[2] = across ? to : row;
            wanted[3] = across ? row : to;
            wanted[4] = thick ? 1 : 0;
        }
    }

    /**
     * The code's bytes and its squares. A row of squares is held as nine bits, column 0 the
     * highest, so that the odd columns are what all rows give by exclusive or.
     */
    private static final class Code {
        private static final int MAX_BYTES = 12;
        private static final int MAX_BYTE = 255;
        private static final int LAST_COLUMN = 8;

        private int count = 0;
        // Kept beside the squares, since a further byte makes good again what was spoilt.
        private final int[] bytes = new int[MAX_BYTES];
        private final int[] bits = new int[MAX_BYTES + 1];

        private boolean append(int b) {
            if (b < 0 || b > MAX_BYTE || count >= MAX_BYTES) {
                return false;
            }
            bytes[count] = b;
            count++;
            drawSquares();
            return true;
        }

        private void drawSquares() {
            int columns = 0;
            for (int y = 0; y < count; y++) {
                bits[y] = bytes[y] << 1 | (isOdd(bytes[y]) ? 1 : 0);
                columns ^= bits[y];
            }
            bits[count] = columns;
        }

        private static boolean isOdd(int row) {
            return (Integer.bitCount(row) & 1) == 1;
        }

        private void empty() {
            count = 0;
        }

        private int countRows() {
            return count == 0 ? 0 : count + 1;
        }

        private boolean isSquare(int x, int y) {
            return x >= 0 && x <= LAST_COLUMN && y >= 0 && y < countRows();
        }

        private boolean isDark(int x, int y) {
            return isSquare(x, y) && (bits[y] >> (LAST_COLUMN - x) & 1) == 1;
        }

        private boolean turnOver(int x, int y) {
            if (!isSquare(x, y)) {
                return false;
            }
            bits[y] ^= 1 << (LAST_COLUMN - x);
            return true;
        }

        private int mend() {
            if (count == 0) {
                return NONE;
            }
            int oddColumns = 0;
            int oddRows = 0;
            int oddRow = 0;
            for (int y = 0; y < countRows(); y++) {
                oddColumns ^= bits[y];
                if (isOdd(bits[y])) {
                    oddRows++;
                    oddRow = y;
                }
            }
            if (oddRows == 0 && oddColumns == 0) {
                return 0;
            }
            // One square turns over one row and one column, so just these two may be odd.
            if (oddRows != 1 || Integer.bitCount(oddColumns) != 1) {
                return NONE;
            }
            bits[oddRow] ^= oddColumns;
            return 1;
        }

        private int toldByte(int i) {
            return i < 0 || i >= count ? NONE : bits[i] >> 1;
        }
    }
}
