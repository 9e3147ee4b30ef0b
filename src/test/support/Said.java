import java.util.ArrayList;
import java.util.List;

/** What a caller has said of a piece, and what the document makes of it for lines and pages. */
final class Said {
    final List<int[]> widths = new ArrayList<>();
    final List<boolean[]> marks = new ArrayList<>();
    final int[] costs = {4, 1000, 500, 100000, 1};
    int width;
    int perPage;
    int count = 0;

    int bars() {
        return widths.size();
    }

    int least(int from, int to) {
        return total(from, to, 0);
    }

    int wished(int from, int to) {
        return total(from, to, 1);
    }

    private int total(int from, int to, int which) {
        int total = 0;
        for (int bar = from; bar <= to; bar++) {
            total += widths.get(bar)[which];
        }
        return total;
    }

    boolean isMarked(int bar, int mark) {
        return marks.get(bar)[mark];
    }

    boolean mayBe(int from, int to) {
        for (int bar = from; bar < to; bar++) {
            if (isMarked(bar, Check.FORCED)) {
                return false;
            }
        }
        boolean mayEnd = !isMarked(to, Check.BARRED) || isMarked(to, Check.FORCED) || to == bars() - 1;
        return mayEnd && (least(from, to) <= width || from == to);
    }

    long linePrice(int from, int to) {
        if (least(from, to) > width) {
            return costs[Check.OVER];
        }
        long d = width - wished(from, to);
        if (d < 0) {
            return costs[Check.SQUEEZE] * d * d;
        }
        return to == bars() - 1 ? 0 : costs[Check.STRETCH] * d * d;
    }

    int turnPrice(int lastBar) {
        return isMarked(lastBar, Check.REST) ? 0 : costs[Check.TURN];
    }

    int pagePrice(Row row, int page) {
        if (page < row.pages() - 1) {
            return turnPrice(row.lastBar(row.lastLine(page)));
        }
        return row.pages() > 1 && row.linesOnPage.get(page) == 1 ? costs[Check.WIDOW] : 0;
    }

    long sumOf(Row row) {
        long sum = 0;
        for (int k = 0; k < row.lines(); k++) {
            sum += linePrice(row.firstBar(k), row.lastBar(k));
        }
        for (int k = 0; k < row.pages(); k++) {
            sum += pagePrice(row, k);
        }
        return sum;
    }
}
