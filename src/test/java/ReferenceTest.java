import java.util.ArrayList;
import java.util.HashMap;
import java.util.List;
import java.util.Map;

/**
 * Runs of as many calls as an object is used for, each answer held against a plain model of the
 * document. Where a piece has few settings, as it is short or most of its bars are marked, the
 * model writes them all out; else it keeps the best rest behind each bar, as rows of lines and
 * pages that are compared by the document's words.
 */
public final class ReferenceTest {
    private static final int SHORT_PIECE = 7;
    private static final int FEW_SETTINGS = 2000;
    private static final int RUNS = 1200;
    private static final int CALLS = 512;

    private static int wrong = 0;
    private static int longOnesWrittenOut = 0;

    private ReferenceTest() {
    }

    /** A setting, or the rest of one. */
    private static final class Row {
        long sum = 0;
        final List<Integer> barsInLine = new ArrayList<>();
        // The first page may have begun ahead of a rest.
        final List<Integer> linesOnPage = new ArrayList<>();

        boolean isBetterThan(Row other) {
            if (other == null) {
                return true;
            }
            if (sum != other.sum) {
                return sum < other.sum;
            }
            if (linesOnPage.size() != other.linesOnPage.size()) {
                return linesOnPage.size() < other.linesOnPage.size();
            }
            if (barsInLine.size() != other.barsInLine.size()) {
                return barsInLine.size() < other.barsInLine.size();
            }
            int lines = firstDifference(barsInLine, other.barsInLine);
            return lines != 0 ? lines > 0 : firstDifference(linesOnPage, other.linesOnPage) > 0;
        }

        private static int firstDifference(List<Integer> a, List<Integer> b) {
            for (int k = 0; k < a.size(); k++) {
                if (!a.get(k).equals(b.get(k))) {
                    return a.get(k) - b.get(k);
                }
            }
            return 0;
        }
    }

    private static final class Model {
        final List<int[]> widths = new ArrayList<>();
        final List<boolean[]> marks = new ArrayList<>();
        final int[] costs = {4, 1000, 500, 100000, 1};
        int width;
        int perPage;
        int count = 0;
        private boolean known = false;
        private Row best;
        private Map<Integer, Row> rests;

        Model(int width, int perPage) {
            this.width = width < 100 ? 100 : width > 5000 ? 5000 : width;
            this.perPage = perPage < 1 ? 1 : perPage > 8 ? 8 : perPage;
        }

        boolean has(int bar) {
            return bar >= 0 && bar < widths.size();
        }

        static boolean fit(int least, int wished) {
            return least >= 1 && least <= 400 && wished >= 1 && wished <= 400 && least <= wished;
        }

        int bar(int least, int wished) {
            if (!fit(least, wished)) {
                return -2;
            }
            if (widths.size() == 24) {
                return -4;
            }
            known = false;
            widths.add(new int[] {least, wished});
            marks.add(new boolean[3]);
            return widths.size() - 1;
        }

        int change(int bar, int least, int wished) {
            if (!has(bar)) {
                return -1;
            }
            if (!fit(least, wished)) {
                return -2;
            }
            known = false;
            widths.set(bar, new int[] {least, wished});
            return 1;
        }

        int mark(int bar, int mark, boolean on) {
            if (!has(bar)) {
                return -1;
            }
            if (mark < 0 || mark > 2) {
                return -2;
            }
            known = false;
            boolean was = marks.get(bar)[mark];
            marks.get(bar)[mark] = on;
            return was ? 1 : 0;
        }

        int cost(int kind, int v) {
            if (kind < 0 || kind > 4 || v < 0 || v > 1000000) {
                return -2;
            }
            known = false;
            int was = costs[kind];
            costs[kind] = v;
            return was;
        }

        int count(int n) {
            if (n < 0 || n > 24) {
                return -2;
            }
            known = false;
            int was = count;
            count = n;
            return was;
        }

        int size(int what, int v) {
            int was;
            if (what == 0 && v >= 100 && v <= 5000) {
                was = width;
                width = v;
            } else if (what == 1 && v >= 1 && v <= 8) {
                was = perPage;
                perPage = v;
            } else {
                return -2;
            }
            known = false;
            return was;
        }

        int total(int from, int to, int which) {
            int sum = 0;
            for (int bar = from; bar <= to; bar++) {
                sum += widths.get(bar)[which];
            }
            return sum;
        }

        boolean mayBe(int from, int to) {
            for (int bar = from; bar < to; bar++) {
                if (marks.get(bar)[0]) {
                    return false;
                }
            }
            boolean mayEnd = !marks.get(to)[1] || marks.get(to)[0] || to == widths.size() - 1;
            return mayEnd && (total(from, to, 0) <= width || from == to);
        }

        long linePrice(int from, int to) {
            if (total(from, to, 0) > width) {
                return costs[3];
            }
            long d = width - total(from, to, 1);
            if (d < 0) {
                return costs[0] * d * d;
            }
            return to == widths.size() - 1 ? 0 : costs[4] * d * d;
        }

        long badness(int from, int to) {
            return has(from) && has(to) && from <= to && mayBe(from, to) ? linePrice(from, to) : -1;
        }

        Row best() {
            if (!known) {
                best = find();
                known = true;
            }
            return best;
        }

        private Row find() {
            if (widths.isEmpty()) {
                return count == 0 ? new Row() : null;
            }
            if (hasFewSettings()) {
                best = null;
                partInLines(0, new ArrayList<>());
                longOnesWrittenOut += best != null && best.barsInLine.size() > SHORT_PIECE ? 1 : 0;
                return best;
            }
            rests = new HashMap<>();
            return rest(0, 0, count);
        }

        /** At most three ways behind each bar (no end, a line's, a page's), two if it is FORCED. */
        private boolean hasFewSettings() {
            int most = 1;
            for (int bar = 0; bar < widths.size() - 1 && most <= FEW_SETTINGS; bar++) {
                boolean forced = marks.get(bar)[0];
                most *= forced ? 2 : marks.get(bar)[1] ? 1 : 3;
            }
            return most <= FEW_SETTINGS;
        }

        private void partInLines(int from, List<Integer> lines) {
            if (from == widths.size()) {
                if (count == 0 || count == lines.size()) {
                    partInPages(0, lines, new ArrayList<>());
                }
                return;
            }
            for (int to = from; to < widths.size(); to++) {
                if (mayBe(from, to)) {
                    lines.add(to - from + 1);
                    partInLines(to + 1, lines);
                    lines.remove(lines.size() - 1);
                }
            }
        }

        private void partInPages(int first, List<Integer> lines, List<Integer> pages) {
            if (first == lines.size()) {
                Row row = new Row();
                row.barsInLine.addAll(lines);
                row.linesOnPage.addAll(pages);
                row.sum = sumOf(row);
                if (row.isBetterThan(best)) {
                    best = row;
                }
                return;
            }
            for (int n = 1; n <= perPage && first + n <= lines.size(); n++) {
                pages.add(n);
                partInPages(first + n, lines, pages);
                pages.remove(pages.size() - 1);
            }
        }

        private long sumOf(Row row) {
            long sum = 0;
            for (int k = 0; k < row.barsInLine.size(); k++) {
                sum += linePrice(firstBar(row, k), firstBar(row, k + 1) - 1);
            }
            for (int k = 0; k < row.linesOnPage.size(); k++) {
                sum += pagePrice(row, k);
            }
            return sum;
        }

        private Row rest(int from, int onPage, int left) {
            int key = (from * 9 + onPage) * 25 + left;
            if (rests.containsKey(key)) {
                return rests.get(key);
            }
            Row found = null;
            for (int to = from; to < widths.size(); to++) {
                if (!mayBe(from, to)) {
                    continue;
                }
                if (to == widths.size() - 1) {
                    boolean widow = onPage == 0 && from > 0;
                    long price = widow ? costs[2] : 0;
                    found = left > 1 ? found : better(found, ahead(from, to, new Row(), true, price));
                    continue;
                }
                if (count > 0 && left == 1) {
                    continue;
                }
                int then = count > 0 ? left - 1 : 0;
                long turn = marks.get(to)[2] ? 0 : costs[1];
                found = better(found, ahead(from, to, rest(to + 1, 0, then), true, turn));
                if (onPage + 1 < perPage) {
                    Row behind = rest(to + 1, onPage + 1, then);
                    found = better(found, ahead(from, to, behind, false, 0));
                }
            }
            rests.put(key, found);
            return found;
        }

        private Row ahead(int from, int to, Row rest, boolean endsPage, long price) {
            if (rest == null) {
                return null;
            }
            Row row = new Row();
            row.sum = linePrice(from, to) + price + rest.sum;
            row.barsInLine.add(to - from + 1);
            row.barsInLine.addAll(rest.barsInLine);
            row.linesOnPage.addAll(rest.linesOnPage);
            if (endsPage) {
                row.linesOnPage.add(0, 1);
            } else {
                row.linesOnPage.set(0, row.linesOnPage.get(0) + 1);
            }
            return row;
        }

        private static Row better(Row a, Row b) {
            return b != null && b.isBetterThan(a) ? b : a;
        }

        static int firstBar(Row row, int line) {
            int bar = 0;
            for (int k = 0; k < line; k++) {
                bar += row.barsInLine.get(k);
            }
            return bar;
        }

        static int firstLine(Row row, int page) {
            int line = 0;
            for (int k = 0; k < page; k++) {
                line += row.linesOnPage.get(k);
            }
            return line;
        }

        int pagePrice(Row row, int k) {
            int pages = row.linesOnPage.size();
            if (k == pages - 1) {
                return pages > 1 && row.linesOnPage.get(k) == 1 ? costs[2] : 0;
            }
            int lastBar = firstBar(row, firstLine(row, k + 1)) - 1;
            return marks.get(lastBar)[2] ? 0 : costs[1];
        }

        int line(int k, int what) {
            Row row = best();
            if (row == null) {
                return -3;
            }
            if (k < 0 || k >= row.barsInLine.size()) {
                return -1;
            }
            int from = firstBar(row, k);
            int to = firstBar(row, k + 1) - 1;
            int page = 0;
            while (firstLine(row, page + 1) <= k) {
                page++;
            }
            int d = width - total(from, to, 1);
            return what == 0 ? from : what == 1 ? to : what == 2 ? page : what == 3 ? 1000000 + d : -2;
        }

        int page(int k, int what) {
            Row row = best();
            if (row == null) {
                return -3;
            }
            if (k < 0 || k >= row.linesOnPage.size()) {
                return -1;
            }
            return what == 0 ? firstLine(row, k) : what == 1 ? row.linesOnPage.get(k)
                    : what == 2 ? pagePrice(row, k) : -2;
        }

        int set(int bar, int what) {
            if (!has(bar)) {
                return -1;
            }
            if (what < 0 || what > 2) {
                return -2;
            }
            Row row = best();
            if (row == null) {
                return -3;
            }
            int line = 0;
            while (firstBar(row, line + 1) <= bar) {
                line++;
            }
            int from = firstBar(row, line);
            int to = firstBar(row, line + 1) - 1;
            int before = 0;
            for (int b = from; b < bar; b++) {
                before += setWidth(from, to, b);
            }
            return what == 0 ? line : what == 1 ? setWidth(from, to, bar) : before;
        }

        private int setWidth(int from, int to, int bar) {
            if (total(from, to, 0) > width) {
                return widths.get(bar)[0];
            }
            int d = width - total(from, to, 1);
            int part = share(d, from, to, bar) - share(d, from, to, bar - 1);
            return d >= 0 ? widths.get(bar)[1] + part : widths.get(bar)[1] - part;
        }

        private int share(int d, int from, int to, int upTo) {
            if (d >= 0) {
                return d * total(from, upTo, 1) / total(from, to, 1);
            }
            int gives = total(from, upTo, 1) - total(from, upTo, 0);
            return -d * gives / (total(from, to, 1) - total(from, to, 0));
        }

        boolean ends(int bar) {
            Row row = best();
            if (!has(bar) || row == null) {
                return false;
            }
            for (int k = 1; k <= row.barsInLine.size(); k++) {
                if (firstBar(row, k) - 1 == bar) {
                    return true;
                }
            }
            return false;
        }

        long would(int bar, int mark) {
            if (!has(bar) || mark < 0 || mark > 2) {
                return -1;
            }
            boolean was = marks.get(bar)[mark];
            Row kept = best();
            marks.get(bar)[mark] = true;
            Row row = find();
            marks.get(bar)[mark] = was;
            best = kept;
            return row == null ? -1 : row.sum;
        }
    }

    /** A row of numbers that is the same each time. */
    private static final class Dice {
        private long state;

        Dice(long seed) {
            state = seed * 0x9E3779B97F4A7C15L + 1;
        }

        int below(int n) {
            state ^= state << 13;
            state ^= state >>> 7;
            state ^= state << 17;
            return (int) Math.floorMod(state >>> 11, (long) n);
        }

        int between(int low, int high) {
            return low + below(high - low + 1);
        }

        boolean oneIn(int n) {
            return below(n) == 0;
        }

        /** Mostly within, at times just outside, rarely far out. */
        int near(int low, int high) {
            if (oneIn(60)) {
                return below(2) == 0 ? Integer.MIN_VALUE : Integer.MAX_VALUE;
            }
            return oneIn(12) ? (below(2) == 0 ? low - 1 : high + 1) : between(low, high);
        }
    }

    /** One run: an object, its model, and a manner of widths and costs. */
    private static final class Run {
        final int number;
        final Dice dice;
        final BreakLines x;
        final Model model;
        final int most;
        final boolean alike;
        final boolean marked;
        int calls = 0;

        Run(int number) {
            this.number = number;
            dice = new Dice(number + 1);
            marked = number % 4 == 0;
            int usual = marked ? dice.between(300, 1500) : dice.between(100, 600);
            int width = dice.oneIn(4) ? dice.near(100, 5000) : usual;
            int perPage = dice.near(1, 8);
            x = new BreakLines(width, perPage);
            model = new Model(width, perPage);
            most = marked || dice.oneIn(3) ? 26 : SHORT_PIECE;
            alike = dice.below(2) == 0;
        }

        void due(String call, long got, long want) {
            calls++;
            if (got != want && wrong++ < 50) {
                System.out.println("run " + number + ": " + call + " answered " + got + ", due is " + want);
            }
        }

        int wished() {
            return alike ? 50 * dice.between(1, 3) : dice.near(1, 400);
        }

        int least(int wished) {
            if (dice.oneIn(20)) {
                return dice.near(1, 400);
            }
            int kept = Math.max(1, Math.min(400, wished));
            return alike ? Math.max(1, kept - 20 * dice.below(2)) : dice.between(1, kept);
        }

        int someBar() {
            return dice.near(0, Math.max(0, model.widths.size() - 1));
        }

        void say() {
            switch (dice.below(10)) {
                case 0:
                case 1:
                    addBar();
                    break;
                case 2:
                case 3:
                    changeBar();
                    break;
                case 4:
                case 5:
                case 6:
                    int mark = dice.near(0, 2);
                    putMark(someBar(), mark, isOn(mark));
                    break;
                case 7:
                    int kind = dice.near(0, 4);
                    int v = alike ? Math.max(0, dice.below(6) - 3) * 500 : dice.near(0, 1000000);
                    due("cost(" + kind + ", " + v + ")", x.cost(kind, v), model.cost(kind, v));
                    break;
                case 8:
                    int n = dice.below(2) == 0 ? 0 : dice.near(0, Math.min(24, model.widths.size() + 1));
                    due("count(" + n + ")", x.count(n), model.count(n));
                    break;
                default:
                    int what = dice.near(0, 1);
                    int wide = alike ? 50 * dice.between(2, marked ? 30 : 12) : dice.near(100, 5000);
                    int size = what == 1 ? dice.near(1, 8) : wide;
                    due("size(" + what + ", " + size + ")", x.size(what, size), model.size(what, size));
                    break;
            }
        }

        void addBar() {
            if (model.widths.size() < most || dice.oneIn(9) && most > 24) {
                int wished = wished();
                int least = least(wished);
                due("bar(" + least + ", " + wished + ")", x.bar(least, wished), model.bar(least, wished));
            }
        }

        void putMark(int bar, int mark, boolean on) {
            due("mark(" + bar + ", " + mark + ", " + on + ")", x.mark(bar, mark, on), model.mark(bar, mark, on));
        }

        /** In a piece that is to have few settings, most bars are BARRED and some are FORCED. */
        boolean isOn(int mark) {
            if (!marked || mark == 2) {
                return dice.below(2) == 0;
            }
            return mark == 1 ? !dice.oneIn(8) : dice.oneIn(4);
        }

        void markMost() {
            for (int bar = 0; bar < model.widths.size(); bar++) {
                if (!dice.oneIn(6)) {
                    putMark(bar, dice.oneIn(4) ? 0 : 1, true);
                }
            }
        }

        void changeBar() {
            int bar = someBar();
            int wished = wished();
            int least = least(wished);
            due("change(" + bar + ", " + least + ", " + wished + ")",
                    x.change(bar, least, wished), model.change(bar, least, wished));
        }

        void ask() {
            Row row = model.best();
            int lines = row == null ? -3 : row.barsInLine.size();
            int pages = row == null ? -3 : row.linesOnPage.size();
            int bar = someBar();
            int other = someBar();
            int what = dice.near(0, 3);
            switch (dice.below(10)) {
                case 0:
                    due("bars()", x.bars(), model.widths.size());
                    break;
                case 1:
                    due("sum()", x.sum(), row == null ? -1 : row.sum);
                    break;
                case 8:
                    due("lines()", x.lines(), lines);
                    break;
                case 9:
                    due("pages()", x.pages(), pages);
                    break;
                case 2:
                    int k = dice.near(0, Math.max(0, lines - 1));
                    due("line(" + k + ", " + what + ")", x.line(k, what), model.line(k, what));
                    break;
                case 3:
                    int p = dice.near(0, Math.max(0, pages - 1));
                    due("page(" + p + ", " + what + ")", x.page(p, what), model.page(p, what));
                    break;
                case 4:
                    due("set(" + bar + ", " + what + ")", x.set(bar, what), model.set(bar, what));
                    break;
                case 5:
                    due("ends(" + bar + ")", x.ends(bar) ? 1 : 0, model.ends(bar) ? 1 : 0);
                    break;
                case 6:
                    due("badness(" + bar + ", " + other + ")", x.badness(bar, other), model.badness(bar, other));
                    break;
                default:
                    due("would(" + bar + ", " + what + ")", x.would(bar, what), model.would(bar, what));
                    break;
            }
        }

        void all() {
            int atFirst = marked ? 24 : dice.below(most);
            for (int bar = 0; bar < atFirst; bar++) {
                addBar();
            }
            if (marked) {
                markMost();
            }
            while (calls < CALLS) {
                if (dice.below(2) == 0) {
                    say();
                } else {
                    ask();
                }
            }
        }
    }

    public static void main(String[] args) {
        for (int run = 0; run < RUNS; run++) {
            new Run(run).all();
        }
        System.out.println(RUNS + " runs, " + wrong + " answers are not as due; settings of more lines than "
                + SHORT_PIECE + " written out " + longOnesWrittenOut + " times");
        if (wrong != 0 || longOnesWrittenOut == 0) {
            System.exit(1);
        }
    }
}
