/** A plain model of the document: what each call is due to answer. */
final class Model {
    static final int FEW_LINES = 7;

    private final Said said = new Said();
    private boolean known = false;
    private Row best;
    // How often both ways to the best setting were gone for many lines; how often they parted.
    int comparedLong = 0;
    int parted = 0;

    Model(int width, int perPage) {
        said.width = width < 100 ? 100 : width > 5000 ? 5000 : width;
        said.perPage = perPage < 1 ? 1 : perPage > 8 ? 8 : perPage;
    }

    private boolean has(int bar) {
        return bar >= 0 && bar < said.bars();
    }

    private static boolean fit(int least, int wished) {
        return least >= 1 && least <= 400 && wished >= 1 && wished <= 400 && least <= wished;
    }

    int bar(int least, int wished) {
        if (!fit(least, wished)) {
            return -2;
        }
        if (said.bars() == 24) {
            return -4;
        }
        known = false;
        said.widths.add(new int[] {least, wished});
        said.marks.add(new boolean[Check.MARKS]);
        return said.bars() - 1;
    }

    int change(int bar, int least, int wished) {
        if (!has(bar)) {
            return -1;
        }
        if (!fit(least, wished)) {
            return -2;
        }
        known = false;
        said.widths.set(bar, new int[] {least, wished});
        return 1;
    }

    int mark(int bar, int mark, boolean on) {
        if (!has(bar)) {
            return -1;
        }
        if (mark < 0 || mark > 2) {
            return -2;
        }
        known = false;
        boolean was = said.isMarked(bar, mark);
        said.marks.get(bar)[mark] = on;
        return was ? 1 : 0;
    }

    int cost(int kind, int v) {
        if (kind < 0 || kind > 4 || v < 0 || v > 1000000) {
            return -2;
        }
        known = false;
        int was = said.costs[kind];
        said.costs[kind] = v;
        return was;
    }

    int count(int n) {
        if (n < 0 || n > 24) {
            return -2;
        }
        known = false;
        int was = said.count;
        said.count = n;
        return was;
    }

    int size(int what, int v) {
        int was;
        if (what == 0 && v >= 100 && v <= 5000) {
            was = said.width;
            said.width = v;
        } else if (what == 1 && v >= 1 && v <= 8) {
            was = said.perPage;
            said.perPage = v;
        } else {
            return -2;
        }
        known = false;
        return was;
    }

    int bars() {
        return said.bars();
    }

    private Row best() {
        if (!known) {
            best = find();
            known = true;
        }
        return best;
    }

    private Row find() {
        Row row = OneAfterTheOther.best(said);
        if (WrittenOut.isFor(said)) {
            Row other = WrittenOut.best(said);
            comparedLong += other != null && other.lines() > FEW_LINES ? 1 : 0;
            parted += row == null ? (other == null ? 0 : 1) : (row.isAs(other) ? 0 : 1);
        }
        return row;
    }

    int lines() {
        return best() == null ? -3 : best().lines();
    }

    int pages() {
        return best() == null ? -3 : best().pages();
    }

    long sum() {
        return best() == null ? -1 : best().sum;
    }

    int line(int k, int what) {
        Row row = best();
        if (row == null) {
            return -3;
        }
        if (k < 0 || k >= row.lines()) {
            return -1;
        }
        int from = row.firstBar(k);
        int to = row.lastBar(k);
        int page = 0;
        while (row.lastLine(page) < k) {
            page++;
        }
        int d = said.width - said.wished(from, to);
        return what == 0 ? from : what == 1 ? to : what == 2 ? page : what == 3 ? 1000000 + d : -2;
    }

    int page(int k, int what) {
        Row row = best();
        if (row == null) {
            return -3;
        }
        if (k < 0 || k >= row.pages()) {
            return -1;
        }
        return what == 0 ? row.firstLine(k) : what == 1 ? row.linesOnPage.get(k)
                : what == 2 ? said.pagePrice(row, k) : -2;
    }

    int set(int bar, int what) {
        if (!has(bar)) {
            return -1;
        }
        if (what < 0 || what > 2) {
            return -2;
        }
        Row row = best();
        if (row == null) {
            return -3;
        }
        int line = 0;
        while (row.lastBar(line) < bar) {
            line++;
        }
        int from = row.firstBar(line);
        int to = row.lastBar(line);
        int before = 0;
        for (int b = from; b < bar; b++) {
            before += setWidth(from, to, b);
        }
        return what == 0 ? line : what == 1 ? setWidth(from, to, bar) : before;
    }

    private int setWidth(int from, int to, int bar) {
        if (said.least(from, to) > said.width) {
            return said.least(bar, bar);
        }
        int d = said.width - said.wished(from, to);
        int part = share(d, from, to, bar) - share(d, from, to, bar - 1);
        return d >= 0 ? said.wished(bar, bar) + part : said.wished(bar, bar) - part;
    }

    private int share(int d, int from, int to, int upTo) {
        if (d >= 0) {
            return d * said.wished(from, upTo) / said.wished(from, to);
        }
        int gives = said.wished(from, upTo) - said.least(from, upTo);
        return -d * gives / (said.wished(from, to) - said.least(from, to));
    }

    boolean ends(int bar) {
        Row row = best();
        if (!has(bar) || row == null) {
            return false;
        }
        for (int k = 0; k < row.lines(); k++) {
            if (row.lastBar(k) == bar) {
                return true;
            }
        }
        return false;
    }

    long badness(int from, int to) {
        boolean asked = has(from) && has(to) && from <= to;
        return asked && said.mayBe(from, to) ? said.linePrice(from, to) : -1;
    }

    long would(int bar, int mark) {
        if (!has(bar) || mark < 0 || mark > 2) {
            return -1;
        }
        boolean was = said.isMarked(bar, mark);
        said.marks.get(bar)[mark] = true;
        Row row = find();
        said.marks.get(bar)[mark] = was;
        return row == null ? -1 : row.sum;
    }
}
