import java.util.ArrayList;
import java.util.List;

/** Finds the best setting of a piece that has few of them: writes all out, keeps the best. */
final class WrittenOut {
    private static final int FEW = 2000;

    private final Said said;
    private final List<Integer> lines = new ArrayList<>();
    private final List<Integer> pages = new ArrayList<>();
    private Row best;

    private WrittenOut(Said said) {
        this.said = said;
    }

    /** At most three ways behind each bar (no end, a line's, a page's), two if it is FORCED. */
    static boolean isFor(Said said) {
        int most = 1;
        for (int bar = 0; bar < said.bars() - 1 && most <= FEW; bar++) {
            boolean forced = said.isMarked(bar, Check.FORCED);
            most *= forced ? 2 : said.isMarked(bar, Check.BARRED) ? 1 : 3;
        }
        return most <= FEW;
    }

    static Row best(Said said) {
        WrittenOut all = new WrittenOut(said);
        all.partInLines(0);
        return all.best;
    }

    private void partInLines(int from) {
        if (from == said.bars()) {
            if (said.count == 0 || said.count == lines.size()) {
                partInPages(0);
            }
            return;
        }
        for (int to = from; to < said.bars(); to++) {
            if (said.mayBe(from, to)) {
                lines.add(to - from + 1);
                partInLines(to + 1);
                lines.remove(lines.size() - 1);
            }
        }
    }

    private void partInPages(int first) {
        if (first == lines.size()) {
            keepIfBest();
            return;
        }
        for (int n = 1; n <= said.perPage && first + n <= lines.size(); n++) {
            pages.add(n);
            partInPages(first + n);
            pages.remove(pages.size() - 1);
        }
    }

    private void keepIfBest() {
        Row row = new Row();
        row.barsInLine.addAll(lines);
        row.linesOnPage.addAll(pages);
        row.sum = said.sumOf(row);
        if (best == null || row.isBetterThan(best)) {
            best = row;
        }
    }
}
