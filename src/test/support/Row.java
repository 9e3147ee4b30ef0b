import java.util.ArrayList;
import java.util.List;

/** A setting: how many bars each line has, how many lines each page. */
final class Row {
    long sum = 0;
    final List<Integer> barsInLine = new ArrayList<>();
    final List<Integer> linesOnPage = new ArrayList<>();

    int lines() {
        return barsInLine.size();
    }

    int pages() {
        return linesOnPage.size();
    }

    int firstBar(int line) {
        return totalOfFirst(barsInLine, line);
    }

    int lastBar(int line) {
        return firstBar(line + 1) - 1;
    }

    int firstLine(int page) {
        return totalOfFirst(linesOnPage, page);
    }

    int lastLine(int page) {
        return firstLine(page + 1) - 1;
    }

    boolean isAs(Row other) {
        return other != null && sum == other.sum && barsInLine.equals(other.barsInLine)
                && linesOnPage.equals(other.linesOnPage);
    }

    /** The document's order of settings, word by word. */
    boolean isBetterThan(Row other) {
        if (sum != other.sum) {
            return sum < other.sum;
        }
        if (pages() != other.pages()) {
            return pages() < other.pages();
        }
        if (lines() != other.lines()) {
            return lines() < other.lines();
        }
        int inLines = firstDifference(barsInLine, other.barsInLine);
        return inLines != 0 ? inLines > 0 : firstDifference(linesOnPage, other.linesOnPage) > 0;
    }

    private static int firstDifference(List<Integer> a, List<Integer> b) {
        for (int k = 0; k < a.size(); k++) {
            if (!a.get(k).equals(b.get(k))) {
                return a.get(k) - b.get(k);
            }
        }
        return 0;
    }

    private static int totalOfFirst(List<Integer> numbers, int n) {
        int total = 0;
        for (int k = 0; k < n; k++) {
            total += numbers.get(k);
        }
        return total;
    }
}
