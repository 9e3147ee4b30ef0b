import java.util.HashMap;
import java.util.HashSet;
import java.util.List;
import java.util.Map;
import java.util.Set;

/**
 * Finds the best setting as the document tells it, one thing after the other: the least SUM; then
 * the fewest pages that have it, the fewest lines; then line by line the most bars; then page by
 * page the most lines. Only least sums are searched for, so no order of settings is in the search.
 */
final class OneAfterTheOther {
    private static final int ANY = -1;
    private static final long NONE = -1;

    private final Said said;
    private final int bars;
    private final long[][] linePrices;
    private final Map<Integer, Long> known = new HashMap<>();
    private final Row row = new Row();
    // Once the lines are chosen, no others are looked at.
    private boolean linesAreChosen = false;
    private final boolean[][] isChosen;

    private OneAfterTheOther(Said said) {
        this.said = said;
        bars = said.bars();
        linePrices = new long[bars][bars];
        isChosen = new boolean[bars][bars];
        for (int from = 0; from < bars; from++) {
            for (int to = from; to < bars; to++) {
                linePrices[from][to] = said.mayBe(from, to) ? said.linePrice(from, to) : NONE;
            }
        }
    }

    static Row best(Said said) {
        return new OneAfterTheOther(said).find();
    }

    private Row find() {
        int lines = said.count == 0 ? ANY : said.count;
        row.sum = least(0, 0, ANY, lines);
        if (row.sum == NONE) {
            return null;
        }
        int pages = 0;
        while (least(0, 0, pages, lines) != row.sum) {
            pages++;
        }
        if (lines == ANY) {
            lines = 0;
            while (least(0, 0, pages, lines) != row.sum) {
                lines++;
            }
        }
        chooseLines(pages, lines);
        choosePages(pages);
        return row;
    }

    /**
     * The least SUM of the bars from one on, with some lines on its page already and so many page
     * ends and line ends to come.
     */
    private long least(int from, int onPage, int pages, int lines) {
        if (from == bars) {
            return pages <= 0 && lines <= 0 ? 0 : NONE;
        }
        if (pages == 0 || lines == 0) {
            return NONE;
        }
        int key = ((from * 8 + onPage) * 32 + pages + 1) * 32 + lines + 1;
        Long found = known.get(key);
        if (found == null) {
            found = NONE;
            for (int to = from; to < bars; to++) {
                if (isLine(from, to)) {
                    found = lower(found, leastWithLine(from, to, onPage, pages, lines));
                }
            }
            known.put(key, found);
        }
        return found;
    }

    private boolean isLine(int from, int to) {
        return linesAreChosen ? isChosen[from][to] : linePrices[from][to] != NONE;
    }

    private long leastWithLine(int from, int to, int onPage, int pages, int lines) {
        long ended = least(to + 1, 0, oneLess(pages), oneLess(lines));
        long best = plus(ended, linePrices[from][to] + endPrice(from, to, onPage));
        if (mayGoOn(to, onPage)) {
            best = lower(best, plus(least(to + 1, onPage + 1, pages, oneLess(lines)), linePrices[from][to]));
        }
        return best;
    }

    private boolean mayGoOn(int to, int onPage) {
        return to < bars - 1 && onPage + 1 < said.perPage;
    }

    /** What a page costs that ends with a line. */
    private long endPrice(int from, int to, int onPage) {
        if (to < bars - 1) {
            return said.turnPrice(to);
        }
        return onPage == 0 && from > 0 ? said.costs[Check.WIDOW] : 0;
    }

    private static int oneLess(int n) {
        return n == ANY ? ANY : n - 1;
    }

    private static long plus(long sum, long price) {
        return sum == NONE ? NONE : sum + price;
    }

    private static long lower(long a, long b) {
        return a == NONE ? b : b == NONE ? a : Math.min(a, b);
    }

    /** A page that the chosen lines may have got to: its lines, page ends to come, SUM to come. */
    private record Open(int onPage, int pages, long sum) {
    }

    private void chooseLines(int pages, int lines) {
        Set<Open> open = Set.of(new Open(0, pages, row.sum));
        int from = 0;
        for (int left = lines - 1; left >= 0; left--) {
            int to = bars;
            Set<Open> behind = Set.of();
            while (behind.isEmpty()) {
                to--;
                behind = linePrices[from][to] == NONE ? Set.of() : behindLine(open, from, to, left);
            }
            isChosen[from][to] = true;
            row.barsInLine.add(to - from + 1);
            from = to + 1;
            open = behind;
        }
        linesAreChosen = true;
        known.clear();
    }

    private Set<Open> behindLine(Set<Open> open, int from, int to, int left) {
        Set<Open> behind = new HashSet<>();
        for (Open page : open) {
            long sum = page.sum - linePrices[from][to];
            Open ended = new Open(0, page.pages - 1, sum - endPrice(from, to, page.onPage));
            Open same = new Open(page.onPage + 1, page.pages, sum);
            for (Open next : mayGoOn(to, page.onPage) ? List.of(ended, same) : List.of(ended)) {
                if (next.pages >= 0 && least(to + 1, next.onPage, next.pages, left) == next.sum) {
                    behind.add(next);
                }
            }
        }
        return behind;
    }

    private void choosePages(int pages) {
        int line = 0;
        long sum = row.sum;
        for (int left = pages - 1; left >= 0; left--) {
            int n = Math.min(said.perPage, row.lines() - line);
            while (least(row.firstBar(line + n), 0, left, ANY) != sum - pageWithLines(line, n)) {
                n--;
            }
            sum -= pageWithLines(line, n);
            row.linesOnPage.add(n);
            line += n;
        }
    }

    private long pageWithLines(int line, int n) {
        int last = line + n - 1;
        long price = endPrice(row.firstBar(last), row.lastBar(last), n - 1);
        for (int k = line; k <= last; k++) {
            price += linePrices[row.firstBar(k)][row.lastBar(k)];
        }
        return price;
    }
}
