/**
 * Bars of a piece set in lines, lines on pages, at the least cost.
 * What every call answers stands in the document, as promises 1 to 17.
 */
public final class BreakLines {
    public static final long NOTHING = -1L;

    private static final int NO_SUCH = -1;
    private static final int OUTSIDE = -2;
    private static final int NO_SETTING = -3;
    private static final int NO_ROOM = -4;

    private static final int MOST_BARS = 24;
    private static final int WIDEST_BAR = 400;
    private static final int LEAST_WIDTH = 100;
    private static final int MOST_WIDTH = 5000;
    private static final int LEAST_PER_PAGE = 1;
    private static final int MOST_PER_PAGE = 8;
    private static final int HIGHEST_COST = 1000000;
    private static final int D_OFFSET = 1000000;

    private static final int FORCED = 0;
    private static final int BARRED = 1;
    private static final int REST = 2;
    private static final int MARKS = 3;

    private static final int SQUEEZE = 0;
    private static final int TURN = 1;
    private static final int WIDOW = 2;
    private static final int OVER = 3;
    private static final int STRETCH = 4;
    private static final int COSTS = 5;

    private final Piece piece;
    private final Search search;
    private final Setting best;
    private boolean bestIsKnown;

    public BreakLines(int width, int perPage) {
        piece = new Piece(nearest(width, LEAST_WIDTH, MOST_WIDTH),
                nearest(perPage, LEAST_PER_PAGE, MOST_PER_PAGE));
        search = new Search(piece);
        best = new Setting();
        bestIsKnown = false;
    }

    public int bar(int least, int wished) {
        if (!areWidths(least, wished)) {
            return OUTSIDE;
        }
        if (piece.bars >= MOST_BARS) {
            return NO_ROOM;
        }
        bestIsKnown = false;
        return piece.addBar(least, wished);
    }

    public int change(int bar, int least, int wished) {
        if (!piece.hasBar(bar)) {
            return NO_SUCH;
        }
        if (!areWidths(least, wished)) {
            return OUTSIDE;
        }
        bestIsKnown = false;
        piece.putWidths(bar, least, wished);
        return 1;
    }

    public int mark(int bar, int mark, boolean on) {
        if (!piece.hasBar(bar)) {
            return NO_SUCH;
        }
        if (!isWithin(mark, 0, MARKS - 1)) {
            return OUTSIDE;
        }
        bestIsKnown = false;
        boolean was = piece.isMarked(bar, mark);
        piece.putMark(bar, mark, on);
        return was ? 1 : 0;
    }

    public int cost(int kind, int v) {
        if (!isWithin(kind, 0, COSTS - 1) || !isWithin(v, 0, HIGHEST_COST)) {
            return OUTSIDE;
        }
        bestIsKnown = false;
        int was = piece.costs[kind];
        piece.costs[kind] = v;
        return was;
    }

    public int count(int n) {
        if (!isWithin(n, 0, MOST_BARS)) {
            return OUTSIDE;
        }
        bestIsKnown = false;
        int was = piece.count;
        piece.count = n;
        return was;
    }

    public int size(int what, int v) {
        if (what == 0 && isWithin(v, LEAST_WIDTH, MOST_WIDTH)) {
            bestIsKnown = false;
            int was = piece.width;
            piece.width = v;
            return was;
        }
        if (what == 1 && isWithin(v, LEAST_PER_PAGE, MOST_PER_PAGE)) {
            bestIsKnown = false;
            int was = piece.perPage;
            piece.perPage = v;
            return was;
        }
        return OUTSIDE;
    }

    public int bars() {
        return piece.bars;
    }

    public int lines() {
        findBest();
        return best.exists ? best.lines : NO_SETTING;
    }

    public int pages() {
        findBest();
        return best.exists ? best.pages : NO_SETTING;
    }

    public long sum() {
        findBest();
        return best.exists ? best.total : NOTHING;
    }

    public int line(int k, int what) {
        findBest();
        if (!best.exists) {
            return NO_SETTING;
        }
        if (!isWithin(k, 0, best.lines - 1)) {
            return NO_SUCH;
        }
        switch (what) {
            case 0:
                return best.firstBar[k];
            case 1:
                return best.lastBar(k);
            case 2:
                return best.pageOfLine[k];
            case 3:
                return D_OFFSET + piece.spare(best.firstBar[k], best.lastBar(k));
            default:
                return OUTSIDE;
        }
    }

    public int page(int k, int what) {
        findBest();
        if (!best.exists) {
            return NO_SETTING;
        }
        if (!isWithin(k, 0, best.pages - 1)) {
            return NO_SUCH;
        }
        switch (what) {
            case 0:
                return best.firstLine[k];
            case 1:
                return best.linesOnPage(k);
            case 2:
                return pagePrice(k);
            default:
                return OUTSIDE;
        }
    }

    public int set(int bar, int what) {
        if (!piece.hasBar(bar)) {
            return NO_SUCH;
        }
        if (!isWithin(what, 0, 2)) {
            return OUTSIDE;
        }
        findBest();
        if (!best.exists) {
            return NO_SETTING;
        }
        int line = best.lineOfBar[bar];
        if (what == 0) {
            return line;
        }
        int from = best.firstBar[line];
        int to = best.lastBar(line);
        int before = piece.setAhead(from, to, bar);
        return what == 2 ? before : piece.setAhead(from, to, bar + 1) - before;
    }

    public boolean ends(int bar) {
        if (!piece.hasBar(bar)) {
            return false;
        }
        findBest();
        return best.exists && best.lastBar(best.lineOfBar[bar]) == bar;
    }

    public long badness(int from, int to) {
        if (!piece.hasBar(from) || !piece.hasBar(to) || to < from) {
            return NOTHING;
        }
        return piece.linePrice(from, to);
    }

    public long would(int bar, int mark) {
        if (!piece.hasBar(bar) || !isWithin(mark, 0, MARKS - 1)) {
            return NOTHING;
        }
        // The best setting that is kept stays true: the search has tables of its own.
        boolean was = piece.isMarked(bar, mark);
        piece.putMark(bar, mark, true);
        search.run();
        piece.putMark(bar, mark, was);
        return search.foundTotal();
    }

    private void findBest() {
        if (bestIsKnown) {
            return;
        }
        search.run();
        best.take(search, piece.bars);
        bestIsKnown = true;
    }

    private int pagePrice(int k) {
        if (k < best.pages - 1) {
            return piece.turnPrice(best.lastBar(best.firstLine[k + 1] - 1));
        }
        return k > 0 && best.linesOnPage(k) == 1 ? piece.costs[WIDOW] : 0;
    }

    private static boolean areWidths(int least, int wished) {
        return isWithin(wished, 1, WIDEST_BAR) && isWithin(least, 1, wished);
    }

    private static boolean isWithin(int v, int low, int high) {
        return v >= low && v <= high;
    }

    private static int nearest(int v, int low, int high) {
        return Math.max(low, Math.min(high, v));
    }

    /** The bars with their marks, the costs and the sizes: all that the caller has said. */
    private static final class Piece {
        int bars;
        int width;
        int perPage;
        int count;
        final int[] costs;
        // For each mark a bit for each bar, so that many bars are looked at in one step.
        final int[] marked;
        // Widths of all bars ahead of one together, so that those of a line are one difference.
        final int[] leastAhead;
        final int[] wishedAhead;

        Piece(int width, int perPage) {
            this.bars = 0;
            this.width = width;
            this.perPage = perPage;
            this.count = 0;
            costs = new int[COSTS];
            costs[SQUEEZE] = 4;
            costs[TURN] = 1000;
            costs[WIDOW] = 500;
            costs[OVER] = 100000;
            costs[STRETCH] = 1;
            marked = new int[MARKS];
            leastAhead = new int[MOST_BARS + 1];
            wishedAhead = new int[MOST_BARS + 1];
        }

        boolean hasBar(int bar) {
            return bar >= 0 && bar < bars;
        }

        int addBar(int least, int wished) {
            int bar = bars;
            leastAhead[bar + 1] = leastAhead[bar] + least;
            wishedAhead[bar + 1] = wishedAhead[bar] + wished;
            bars = bar + 1;
            return bar;
        }

        void putWidths(int bar, int least, int wished) {
            int moreLeast = least - leastOf(bar, bar);
            int moreWished = wished - wishedOf(bar, bar);
            for (int behind = bar + 1; behind <= bars; behind++) {
                leastAhead[behind] += moreLeast;
                wishedAhead[behind] += moreWished;
            }
        }

        boolean isMarked(int bar, int mark) {
            return (marked[mark] >> bar & 1) == 1;
        }

        void putMark(int bar, int mark, boolean on) {
            int bit = 1 << bar;
            marked[mark] = on ? marked[mark] | bit : marked[mark] & ~bit;
        }

        int leastOf(int from, int to) {
            return leastAhead[to + 1] - leastAhead[from];
        }

        int wishedOf(int from, int to) {
            return wishedAhead[to + 1] - wishedAhead[from];
        }

        /** The document's d of a line. */
        int spare(int from, int to) {
            return width - wishedOf(from, to);
        }

        boolean isOver(int from, int to) {
            return leastAhead[to + 1] - leastAhead[from] > width;
        }

        boolean mayBe(int from, int to) {
            int allButLast = (1 << to) - (1 << from);
            if ((marked[FORCED] & allButLast) != 0) {
                return false;
            }
            if (isMarked(to, BARRED) && !isMarked(to, FORCED) && to != bars - 1) {
                return false;
            }
            return from == to || !isOver(from, to);
        }

        long linePrice(int from, int to) {
            if (!mayBe(from, to)) {
                return NOTHING;
            }
            if (isOver(from, to)) {
                return costs[OVER];
            }
            long d = spare(from, to);
            if (d < 0) {
                return costs[SQUEEZE] * d * d;
            }
            return to == bars - 1 ? 0L : costs[STRETCH] * d * d;
        }

        int turnPrice(int lastBar) {
            return isMarked(lastBar, REST) ? 0 : costs[TURN];
        }

        /** How wide the bars of a line ahead of one are set together. */
        int setAhead(int from, int to, int bar) {
            int least = leastAhead[bar] - leastAhead[from];
            int wished = wishedAhead[bar] - wishedAhead[from];
            if (isOver(from, to)) {
                return least;
            }
            int d = spare(from, to);
            if (d >= 0) {
                return wished + share(d, wished, wishedOf(from, to));
            }
            return wished - share(-d, wished - least, wishedOf(from, to) - leastOf(from, to));
        }

        private static int share(int amount, int part, int whole) {
            return whole > 0 ? amount * part / whole : 0;
        }
    }

    /**
     * Finds the best setting, from the last bars back to the first ones.
     *
     * A setting is held as two numbers, and the better one has the lower first number or, if
     * these are equal, the lower second one. The RANK is THE SUM, the pages and the lines in one
     * number. The ORDER has a bit for each line end and, below these, one for each page end, the
     * first bar's the highest: an earlier end makes it higher, as the document wants of lines
     * with fewer bars and pages with fewer lines. Both are added up line by line, so the best
     * rest behind a line does not depend on what is ahead of it, but for the lines that are on
     * the page already.
     */
    private static final class Search {
        private static final long NONE = Long.MAX_VALUE;
        private static final long ONE_LINE = 1L;
        private static final long ONE_PAGE = 32L;
        // THE SUM stays below 10 to the 15th, so that the rank has room in a long.
        private static final long ONE_OF_SUM = 1024L;

        private final Piece piece;
        private final long[] linePrices;
        private final long[] turnPrices;
        // For each first bar and number of lines already on its page: the best rest.
        private final long[] ranks;
        private final long[] orders;
        private long foundRank;
        private long foundOrder;

        Search(Piece piece) {
            this.piece = piece;
            linePrices = new long[MOST_BARS * MOST_BARS];
            turnPrices = new long[MOST_BARS];
            ranks = new long[MOST_BARS * MOST_PER_PAGE];
            orders = new long[MOST_BARS * MOST_PER_PAGE];
            foundRank = NONE;
            foundOrder = 0L;
        }

        void run() {
            foundOrder = 0L;
            if (piece.bars == 0) {
                foundRank = piece.count == 0 ? 0L : NONE;
                return;
            }
            if (piece.count > piece.bars) {
                foundRank = NONE;
                return;
            }
            priceLinesAndTurns();
            if (piece.count == 0) {
                fillForAnyCount();
            } else {
                fillForCount(piece.count);
            }
            foundRank = ranks[0];
            foundOrder = orders[0];
        }

        boolean hasFound() {
            return foundRank != NONE;
        }

        long foundTotal() {
            return hasFound() ? foundRank / ONE_OF_SUM : NOTHING;
        }

        boolean lineEndsAt(int bar) {
            return (foundOrder & lineEnd(bar)) != 0L;
        }

        boolean pageEndsAt(int bar) {
            return (foundOrder & pageEnd(bar)) != 0L;
        }

        private void priceLinesAndTurns() {
            for (int from = 0; from < piece.bars; from++) {
                turnPrices[from] = piece.turnPrice(from);
                for (int to = from; to < piece.bars; to++) {
                    linePrices[from * MOST_BARS + to] = piece.linePrice(from, to);
                }
            }
        }

        private void fillForAnyCount() {
            for (int from = piece.bars - 1; from >= 0; from--) {
                int mostOnPage = Math.min(piece.perPage - 1, from);
                for (int onPage = 0; onPage <= mostOnPage; onPage++) {
                    fillCell(from, onPage, from, piece.bars - 1);
                }
            }
        }

        // One table does for all counts: going up from the first bars, a cell is written only
        // when no other one needs what it held for one line fewer.
        private void fillForCount(int count) {
            for (int left = 1; left <= count; left++) {
                int used = count - left;
                int lastTo = piece.bars - left;
                int lastFrom = used == 0 ? 0 : lastTo;
                int mostOnPage = Math.min(piece.perPage - 1, used);
                for (int from = used; from <= lastFrom; from++) {
                    int firstTo = left == 1 ? lastTo : from;
                    for (int onPage = 0; onPage <= mostOnPage; onPage++) {
                        fillCell(from, onPage, firstTo, lastTo);
                    }
                }
            }
        }

        private void fillCell(int from, int onPage, int firstTo, int lastTo) {
            int cell = from * MOST_PER_PAGE + onPage;
            ranks[cell] = NONE;
            orders[cell] = NONE;
            for (int to = firstTo; to <= lastTo; to++) {
                long price = linePrices[from * MOST_BARS + to];
                if (price == NOTHING) {
                    continue;
                }
                long rank = price * ONE_OF_SUM + ONE_LINE;
                if (to == piece.bars - 1) {
                    boolean widow = onPage == 0 && from > 0;
                    long last = (widow ? piece.costs[WIDOW] : 0L) * ONE_OF_SUM + ONE_PAGE;
                    offer(cell, rank + last, lineEnd(to) + pageEnd(to));
                } else {
                    offerGoingOn(cell, rank, to, onPage + 1);
                }
            }
        }

        private void offerGoingOn(int cell, long rank, int to, int onPage) {
            int next = (to + 1) * MOST_PER_PAGE;
            if (ranks[next] != NONE) {
                long turn = turnPrices[to] * ONE_OF_SUM + ONE_PAGE;
                offer(cell, rank + turn + ranks[next], lineEnd(to) + pageEnd(to) + orders[next]);
            }
            if (onPage < piece.perPage && ranks[next + onPage] != NONE) {
                offer(cell, rank + ranks[next + onPage], lineEnd(to) + orders[next + onPage]);
            }
        }

        private void offer(int cell, long rank, long order) {
            if (rank < ranks[cell] || rank == ranks[cell] && order < orders[cell]) {
                ranks[cell] = rank;
                orders[cell] = order;
            }
        }

        private static long lineEnd(int bar) {
            return 1L << (2 * MOST_BARS - 1 - bar);
        }

        private static long pageEnd(int bar) {
            return 1L << (MOST_BARS - 1 - bar);
        }
    }

    /** The best setting, as rows of lines and pages. */
    private static final class Setting {
        boolean exists;
        long total;
        int lines;
        int pages;
        // One more than there are, so that the last line and page have an end too.
        final int[] firstBar;
        final int[] firstLine;
        final int[] pageOfLine;
        final int[] lineOfBar;

        Setting() {
            exists = false;
            total = 0L;
            lines = 0;
            pages = 0;
            firstBar = new int[MOST_BARS + 1];
            firstLine = new int[MOST_BARS + 1];
            pageOfLine = new int[MOST_BARS];
            lineOfBar = new int[MOST_BARS];
        }

        void take(Search search, int bars) {
            exists = search.hasFound();
            total = search.foundTotal();
            lines = 0;
            pages = 0;
            if (!exists) {
                return;
            }
            for (int bar = 0; bar < bars; bar++) {
                lineOfBar[bar] = lines;
                if (search.lineEndsAt(bar)) {
                    pageOfLine[lines] = pages;
                    lines++;
                    firstBar[lines] = bar + 1;
                }
                if (search.pageEndsAt(bar)) {
                    pages++;
                    firstLine[pages] = lines;
                }
            }
        }

        int lastBar(int line) {
            return firstBar[line + 1] - 1;
        }

        int linesOnPage(int page) {
            return firstLine[page + 1] - firstLine[page];
        }
    }
}
