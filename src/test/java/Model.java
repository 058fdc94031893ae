import java.util.ArrayList;
import java.util.List;
import java.util.TreeMap;

/**
 * The document's words followed as plainly as can be, in other ways than the class goes: the text
 * is kept as it is, lines and squares are made anew for every answer.
 */
final class Model {
    private final StringBuilder text = new StringBuilder();
    private List<Integer> firstWords = new ArrayList<>();
    private long rest = 0;
    private final List<Integer> heights = new ArrayList<>();
    private int[][] cages = new int[1][1];
    private final List<Integer> bytes = new ArrayList<>();
    private boolean[][] squares = {};

    /** The answer of a call of the face, a boolean as 1 or 0, and 0 where there is none. */
    long answer(String call, int[] v) {
        return switch (call) {
            case "unit" -> asLong(unit(v[0]));
            case "broken" -> broken(v[0]);
            case "line" -> v[0] >= 0 && v[0] < firstWords.size() ? firstWords.get(v[0]) : -1;
            case "rest" -> rest;
            case "clear" -> clear();
            case "box" -> box(v[0]);
            case "pages" -> pages(v[0], v[1]);
            case "put" -> put(v[0], v[1], v[2], v[3]);
            case "grid" -> asLong(grid(v[0], v[1]));
            case "cage" -> asLong(cage(v[0], v[1]));
            case "lines" -> lines().size();
            case "drawn" -> drawn(v[0], v[1]);
            case "code" -> asLong(code(v[0]));
            case "rows" -> squares.length;
            case "dark" -> asLong(isSquare(v[0], v[1]) && squares[v[1]][v[0]]);
            case "spoil" -> asLong(spoil(v[0], v[1]));
            case "read" -> read();
            case "byteAt" -> byteAt(v[0]);
            case "wipe" -> wipe();
            default -> throw new IllegalArgumentException(call);
        };
    }

    private static long asLong(boolean answer) {
        return answer ? 1 : 0;
    }

    private boolean unit(int u) {
        if (u < 32 || u > 126 || text.length() == 200) {
            return false;
        }
        text.append((char) u);
        return true;
    }

    private long clear() {
        text.setLength(0);
        forget();
        return 0;
    }

    private void forget() {
        firstWords = new ArrayList<>();
        rest = 0;
    }

    private long broken(int width) {
        if (width < 1 || width > 100) {
            return -1;
        }
        forget();
        List<String> words = new ArrayList<>();
        for (String word : text.toString().split(" ")) {
            if (word.length() > width) {
                return -2;
            }
            if (!word.isEmpty()) {
                words.add(word);
            }
        }
        keepBest(words, width);
        return firstWords.size();
    }

    // Forwards, with the whole break of the first so many words, where the class goes backwards
    // with single lines.
    private void keepBest(List<String> words, int width) {
        List<List<Integer>> best = new ArrayList<>(List.of(new ArrayList<>()));
        long[] least = new long[words.size() + 1];
        for (int behind = 1; behind <= words.size(); behind++) {
            List<Integer> bestHere = null;
            for (int first = 0; first < behind; first++) {
                long left = width - String.join(" ", words.subList(first, behind)).length();
                if (left < 0) {
                    continue;
                }
                List<Integer> tried = new ArrayList<>(best.get(first));
                tried.add(first);
                long sum = least[first] + left * left;
                if (bestHere == null || sum < least[behind]
                    || sum == least[behind] && hasMoreWordsFirst(tried, bestHere)) {
                    bestHere = tried;
                    least[behind] = sum;
                }
            }
            best.add(bestHere);
        }
        firstWords = best.get(words.size());
        rest = least[words.size()];
    }

    // The first line that differs has more words where the line behind it begins later.
    private static boolean hasMoreWordsFirst(List<Integer> one, List<Integer> other) {
        for (int k = 0; k < one.size() && k < other.size(); k++) {
            if (!one.get(k).equals(other.get(k))) {
                return one.get(k) > other.get(k);
            }
        }
        return one.size() < other.size();
    }

    private long box(int height) {
        if (height < 1 || height > 1000 || heights.size() == 60) {
            return -1;
        }
        heights.add(height);
        return heights.size() - 1;
    }

    /** Of every box the page and the top. */
    private List<int[]> places(int height, int gap) {
        List<int[]> places = new ArrayList<>();
        int page = 0;
        int bottom = 0;
        boolean empty = true;
        for (int box : heights) {
            if (!empty && (box > height || bottom + gap + box > height)) {
                page++;
                empty = true;
            }
            int top = empty ? 0 : bottom + gap;
            places.add(new int[] {page, top});
            bottom = top + box;
            empty = false;
            if (box > height) {
                page++;
                empty = true;
            }
        }
        return places;
    }

    private static boolean isPage(int height, int gap) {
        return height >= 1 && height <= 1000 && gap >= 0 && gap <= 100;
    }

    private long pages(int height, int gap) {
        if (!isPage(height, gap)) {
            return -1;
        }
        return places(height, gap).stream().map(place -> place[0]).distinct().count();
    }

    private long put(int box, int height, int gap, int what) {
        if (!isPage(height, gap) || box < 0 || box >= heights.size() || what < 0 || what > 1) {
            return -1;
        }
        return places(height, gap).get(box)[what];
    }

    private boolean grid(int width, int height) {
        if (width < 1 || width > 8 || height < 1 || height > 8) {
            return false;
        }
        cages = new int[height][width];
        return true;
    }

    private boolean cage(int cell, int cage) {
        int width = cages[0].length;
        if (cell < 0 || cell >= width * cages.length || cage < 0 || cage > 9) {
            return false;
        }
        cages[cell / width][cell % width] = cage;
        return true;
    }

    private int cageAt(int x, int y) {
        boolean inside = y >= 0 && y < cages.length && x >= 0 && x < cages[0].length;
        return inside ? cages[y][x] : -1;
    }

    /** All pieces, sorted by where they begin, each joined to the line that ends there. */
    private List<int[]> lines() {
        TreeMap<Integer, int[]> pieces = new TreeMap<>();
        for (int y = 0; y <= cages.length; y++) {
            for (int x = 0; x <= cages[0].length; x++) {
                if (x < cages[0].length) {
                    int thick = cageAt(x, y - 1) == cageAt(x, y) ? 0 : 1;
                    pieces.put(100 * y + x, new int[] {x, y, x + 1, y, thick});
                }
                if (y < cages.length) {
                    int thick = cageAt(x - 1, y) == cageAt(x, y) ? 0 : 1;
                    pieces.put(10000 + 100 * x + y, new int[] {x, y, x, y + 1, thick});
                }
            }
        }
        List<int[]> lines = new ArrayList<>();
        for (int[] piece : pieces.values()) {
            int[] last = lines.isEmpty() ? piece : lines.get(lines.size() - 1);
            boolean sameWay = (last[0] == last[2]) == (piece[0] == piece[2]);
            if (sameWay && last[2] == piece[0] && last[3] == piece[1] && last[4] == piece[4]) {
                last[2] = piece[2];
                last[3] = piece[3];
            } else {
                lines.add(piece);
            }
        }
        return lines;
    }

    private long drawn(int k, int what) {
        List<int[]> lines = lines();
        boolean none = k < 0 || k >= lines.size() || what < 0 || what > 4;
        return none ? -1 : lines.get(k)[what];
    }

    private boolean code(int b) {
        if (b < 0 || b > 255 || bytes.size() == 12) {
            return false;
        }
        bytes.add(b);
        squares = new boolean[bytes.size() + 1][9];
        for (int y = 0; y < bytes.size(); y++) {
            String bits = Integer.toBinaryString(256 + bytes.get(y)).substring(1);
            for (int x = 0; x < 8; x++) {
                squares[y][x] = bits.charAt(x) == '1';
            }
            squares[y][8] = isRowOdd(y);
        }
        for (int x = 0; x < 9; x++) {
            squares[bytes.size()][x] = isColumnOdd(x);
        }
        return true;
    }

    private boolean isRowOdd(int y) {
        boolean odd = false;
        for (boolean dark : squares[y]) {
            odd ^= dark;
        }
        return odd;
    }

    private boolean isColumnOdd(int x) {
        boolean odd = false;
        for (boolean[] row : squares) {
            odd ^= row[x];
        }
        return odd;
    }

    private boolean isEven() {
        boolean odd = false;
        for (int y = 0; y < squares.length; y++) {
            odd |= isRowOdd(y);
        }
        for (int x = 0; x < 9; x++) {
            odd |= isColumnOdd(x);
        }
        return !odd;
    }

    private boolean isSquare(int x, int y) {
        return y >= 0 && y < squares.length && x >= 0 && x < 9;
    }

    private boolean spoil(int x, int y) {
        if (isSquare(x, y)) {
            squares[y][x] = !squares[y][x];
            return true;
        }
        return false;
    }

    private long read() {
        if (squares.length == 0) {
            return -1;
        }
        if (isEven()) {
            return 0;
        }
        for (int y = 0; y < squares.length; y++) {
            for (int x = 0; x < 9; x++) {
                spoil(x, y);
                if (isEven()) {
                    return 1;
                }
                spoil(x, y);
            }
        }
        return -1;
    }

    private long byteAt(int i) {
        if (i < 0 || i >= bytes.size()) {
            return -1;
        }
        StringBuilder bits = new StringBuilder();
        for (int x = 0; x < 8; x++) {
            bits.append(squares[i][x] ? '1' : '0');
        }
        return Integer.parseInt(bits.toString(), 2);
    }

    private long wipe() {
        bytes.clear();
        squares = new boolean[0][];
        return 0;
    }
}
