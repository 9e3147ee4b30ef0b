/**
 * Each sentence of the document that names a bound, by a test of its own: at the bound, just
 * outside it, and far out. That a refused call changes nothing is RefusalsTest's to show.
 */
public final class BoundsTest {
    private static final int MIN = Check.MIN;
    private static final int MAX = Check.MAX;
    private static final long NOTHING = BreakLines.NOTHING;

    private BoundsTest() {
    }

    // ---- What it is

    private static void used512Times() {
        BreakLines x = new BreakLines(100, 8);
        int calls = 0;
        while (calls < 24) {
            Check.due("call " + calls, x.bar(10, 20), calls);
            calls++;
        }
        // Four full lines, and one of 60 and the last bar.
        while (calls < 512) {
            boolean wide = calls % 4 == 0;
            Check.due("call " + calls, x.change(23, 10, wide ? 41 : 40), 1);
            Check.due("call " + (calls + 1), x.sum(), wide ? 4 : 0);
            calls += 2;
        }
        Check.due("calls", calls, 512);
    }

    // ---- Terms: bars

    private static void barsAtMost24() {
        BreakLines x = Check.piece(100, 8, 23, 10, 20);
        Check.due("mark(23, REST), 23 bars", x.mark(23, Check.REST, true), -1);
        Check.due("the 24th bar", x.bar(11, 21), 23);
        Check.due("the 25th bar", x.bar(11, 21), -4);
        Check.due("bars()", x.bars(), 24);
        Check.due("change(23)", x.change(23, 10, 20), 1);
        Check.due("change(24)", x.change(24, 10, 20), -1);
        Check.due("mark(23)", x.mark(23, Check.REST, true), 0);
        Check.due("mark(24)", x.mark(24, Check.REST, true), -1);
        Check.due("set(23, 0)", x.set(23, 0), 4);
        Check.due("set(24, 0)", x.set(24, 0), -1);
        Check.due("ends(23)", x.ends(23), true);
        Check.due("ends(24)", x.ends(24), false);
        Check.due("badness(23, 23)", x.badness(23, 23), 0);
        Check.due("badness(23, 24)", x.badness(23, 24), NOTHING);
        Check.due("badness(24, 24)", x.badness(24, 24), NOTHING);
        Check.due("would(23, FORCED)", x.would(23, Check.FORCED), 0);
        Check.due("would(24, FORCED)", x.would(24, Check.FORCED), NOTHING);
    }

    private static void barsFromZero() {
        BreakLines x = new BreakLines(100, 8);
        Check.due("mark(0), no bars", x.mark(0, Check.REST, true), -1);
        for (int bar = 0; bar < 24; bar++) {
            Check.due("bars()", x.bars(), bar);
            Check.due("bar(5, 6)", x.bar(5, 6), bar);
            Check.due("the bar is there", x.mark(bar, Check.REST, true), 0);
            Check.due("the next is not", x.mark(bar + 1, Check.REST, true), -1);
        }
        Check.due("mark(-1)", x.mark(-1, Check.REST, true), -1);
    }

    /** That bar 0 of two bars has these widths: its LEAST by what fits beside it, its WISHED by d. */
    private static void dueWidths(BreakLines x, int least, int wished) {
        String bar = "(" + least + ", " + wished + ")";
        int width = Math.max(100, least + 10);
        x.size(0, width);
        x.change(1, width - least, 400);
        Check.due(bar + ": the line is just full", x.badness(0, 1) != NOTHING, true);
        x.change(1, width - least + 1, 400);
        Check.due(bar + ": the line is too full by 1", x.badness(0, 1), NOTHING);
        x.size(0, 5000);
        x.count(2);
        Check.due(bar + ": line(0, 3)", x.line(0, 3), 1000000 + 5000 - wished);
    }

    private static void dueTaken(int least, int wished) {
        String widths = "(" + least + ", " + wished + ")";
        BreakLines x = new BreakLines(100, 8);
        Check.due("bar" + widths, x.bar(least, wished), 0);
        x.bar(1, 1);
        dueWidths(x, least, wished);
        BreakLines y = Check.piece(100, 8, 2, 17, 23);
        Check.due("change" + widths, y.change(0, least, wished), 1);
        dueWidths(y, least, wished);
    }

    private static void dueRefused(int least, int wished) {
        String widths = "(" + least + ", " + wished + ")";
        BreakLines x = Check.piece(100, 8, 2, 17, 23);
        Check.due("bar" + widths, x.bar(least, wished), -2);
        Check.due("change" + widths, x.change(0, least, wished), -2);
        Check.due("bars()", x.bars(), 2);
        dueWidths(x, 17, 23);
    }

    private static void leastFrom1To400() {
        dueTaken(1, 1);
        dueTaken(1, 200);
        dueTaken(399, 400);
        dueTaken(400, 400);
        dueRefused(0, 1);
        dueRefused(0, 200);
        dueRefused(-1, 200);
        dueRefused(MIN, 200);
        dueRefused(401, 400);
        dueRefused(401, 401);
        dueRefused(MAX, 400);
    }

    private static void wishedFrom1To400() {
        dueTaken(1, 1);
        dueTaken(1, 399);
        dueTaken(1, 400);
        dueTaken(400, 400);
        dueRefused(1, 401);
        dueRefused(400, 401);
        dueRefused(1, MAX);
        dueRefused(0, 0);
        dueRefused(1, 0);
        dueRefused(1, -1);
        dueRefused(-2, -1);
        dueRefused(MIN, MIN);
        dueRefused(MIN, MAX);
        dueRefused(MAX, MIN);
        dueRefused(MAX, MAX);
    }

    private static void leastNotAboveWished() {
        dueTaken(2, 2);
        dueTaken(1, 2);
        dueTaken(200, 200);
        dueTaken(199, 200);
        dueTaken(399, 399);
        dueRefused(2, 1);
        dueRefused(201, 200);
        dueRefused(400, 399);
        dueRefused(400, 1);
    }

    private static void marks0To2() {
        for (int mark = 0; mark < 3; mark++) {
            BreakLines x = Check.piece(100, 8, 2, 10, 20);
            Check.due("mark(1, " + mark + ", true)", x.mark(1, mark, true), 0);
            for (int other = 0; other < 3; other++) {
                Check.due("mark(1, " + other + ")", x.mark(1, other, false), other == mark ? 1 : 0);
                Check.due("mark(0, " + other + ")", x.mark(0, other, false), 0);
            }
        }
        BreakLines x = Check.piece(100, 8, 2, 10, 20);
        for (int mark = 0; mark < 3; mark++) {
            Check.due("would(1, " + mark + ")", x.would(1, mark), 0);
        }
        for (int mark : new int[] {-1, 3, MIN, MAX}) {
            Check.due("mark(1, " + mark + ", true)", x.mark(1, mark, true), -2);
            Check.due("mark(1, " + mark + ", false)", x.mark(1, mark, false), -2);
            Check.due("would(1, " + mark + ")", x.would(1, mark), NOTHING);
        }
    }

    // ---- Terms: lines that MAY BE

    private static final long ONE_TO_FOUR = 960L * 960L;

    private static BreakLines sixBars() {
        return Check.piece(1000, 8, 6, 10, 10);
    }

    private static void noneButTheLastForced() {
        BreakLines x = sixBars();
        for (int bar = 0; bar < 6; bar++) {
            boolean inner = bar >= 1 && bar < 4;
            x.mark(bar, Check.FORCED, true);
            Check.due("bar " + bar + " FORCED", x.badness(1, 4), inner ? NOTHING : ONE_TO_FOUR);
            x.mark(bar, Check.FORCED, false);
            Check.due("bar " + bar + " no longer", x.badness(1, 4), ONE_TO_FOUR);
        }
        x.mark(2, Check.FORCED, true);
        Check.due("a line of one bar, FORCED", x.badness(2, 2), 990 * 990);
        Check.dueLastBars("a line ends there", x, 2, 5);
    }

    private static void theLastNotBarred() {
        BreakLines x = sixBars();
        for (int bar = 0; bar < 6; bar++) {
            x.mark(bar, Check.BARRED, true);
            Check.due("bar " + bar + " BARRED", x.badness(1, 4), bar == 4 ? NOTHING : ONE_TO_FOUR);
            Check.due("a line of it alone", x.badness(bar, bar), bar == 5 ? 0 : NOTHING);
            x.mark(bar, Check.BARRED, false);
            Check.due("bar " + bar + " no longer", x.badness(1, 4), ONE_TO_FOUR);
        }
    }

    private static void barredButForced() {
        BreakLines x = sixBars();
        x.mark(4, Check.BARRED, true);
        x.mark(4, Check.FORCED, true);
        Check.due("both", x.badness(1, 4), ONE_TO_FOUR);
        Check.due("over both", x.badness(1, 5), NOTHING);
        Check.dueLastBars("a line ends there", x, 4, 5);
        x.mark(4, Check.FORCED, false);
        Check.due("BARRED alone", x.badness(1, 4), NOTHING);
        x.mark(4, Check.REST, true);
        Check.due("REST frees none", x.badness(1, 4), NOTHING);
        x.mark(3, Check.FORCED, true);
        Check.due("FORCED one bar ahead frees none", x.badness(4, 4), NOTHING);
    }

    private static void barredButTheLastOfAll() {
        BreakLines x = sixBars();
        x.mark(5, Check.BARRED, true);
        Check.due("the last of all", x.badness(2, 5), 0);
        Check.dueLastBars("the last line ends there", x, 5);
        x.bar(10, 10);
        Check.due("no longer the last", x.badness(2, 5), NOTHING);
        Check.due("the last one now", x.badness(5, 6), 0);
        x.mark(6, Check.BARRED, true);
        Check.due("BARRED too", x.badness(5, 6), 0);
    }

    private static void leastNotAboveTheWidth() {
        BreakLines x = new BreakLines(100, 8);
        x.bar(50, 60);
        x.bar(50, 60);
        x.bar(1, 1);
        Check.due("LEAST 100, WIDTH 100", x.badness(0, 1), 4 * 400);
        Check.due("LEAST 101, WIDTH 100", x.badness(0, 2), NOTHING);
        x.size(0, 101);
        Check.due("LEAST 101, WIDTH 101", x.badness(0, 2), 4 * 400);
        x.size(0, 100);
        x.change(1, 51, 60);
        Check.due("LEAST 101 of two bars", x.badness(0, 1), NOTHING);
        x.change(1, 49, 60);
        Check.due("LEAST 99", x.badness(0, 1), 4 * 400);
        BreakLines y = Check.piece(5000, 8, 12, 400, 400);
        y.bar(200, 200);
        Check.due("LEAST 5000, WIDTH 5000", y.badness(0, 12), 0);
        y.change(12, 201, 201);
        Check.due("LEAST 5001, WIDTH 5000", y.badness(0, 12), NOTHING);
        BreakLines z = Check.piece(100, 8, 24, 4, 400);
        Check.due("LEAST 96 of 24 bars", z.badness(0, 23), 4L * 9500 * 9500);
        z.change(23, 9, 400);
        Check.due("LEAST 101 of 24 bars", z.badness(0, 23), NOTHING);
    }

    private static void orItHasOneBar() {
        BreakLines x = Check.stiff(100, 8, 101, 1, 400);
        Check.due("one bar of 101", x.badness(0, 0), 100000);
        Check.due("two bars", x.badness(0, 1), NOTHING);
        Check.due("one bar of 400", x.badness(2, 2), 100000);
        Check.dueLastBars("each has a line", x, 0, 1, 2);
        x.mark(0, Check.BARRED, true);
        Check.due("one bar, BARRED", x.badness(0, 0), NOTHING);
        Check.due("no SETTING then", x.sum(), NOTHING);
    }

    // ---- Terms: sizes, pages, settings

    private static void dueWidthOf(String what, BreakLines x, int width) {
        x.bar(1, 1);
        x.bar(1, 1);
        long d = width - 1;
        Check.due(what + ": badness(0, 0)", x.badness(0, 0), d * d);
        Check.due(what + ": size(0, 100)", x.size(0, 100), width);
    }

    private static void width100To5000() {
        int[][] rows = {{MIN, 100}, {-1, 100}, {0, 100}, {99, 100}, {100, 100}, {101, 101},
            {4999, 4999}, {5000, 5000}, {5001, 5000}, {MAX, 5000}};
        for (int[] row : rows) {
            dueWidthOf("new(" + row[0] + ", 1)", new BreakLines(row[0], 1), row[1]);
            BreakLines x = Check.stiff(777, 1, 1);
            boolean within = row[0] == row[1];
            Check.due("line(0, 3) at first", x.line(0, 3), 1000776);
            Check.due("size(0, " + row[0] + ")", x.size(0, row[0]), within ? 777 : -2);
            Check.due("line(0, 3)", x.line(0, 3), 1000000 + (within ? row[0] : 777) - 1);
            dueWidthOf("size(0, " + row[0] + ")", x, within ? row[0] : 777);
        }
    }

    private static void duePerPageOf(String what, BreakLines x, int perPage) {
        for (int bar = 0; bar < perPage; bar++) {
            x.bar(100, 100);
        }
        Check.lineForEachBar(x);
        Check.due(what + ": as many lines", x.pages(), 1);
        x.bar(100, 100);
        Check.due(what + ": a line more", x.pages(), 2);
        Check.due(what + ": size(1, 1)", x.size(1, 1), perPage);
    }

    private static void perPage1To8() {
        int[][] rows = {{MIN, 1}, {-1, 1}, {0, 1}, {1, 1}, {2, 2}, {7, 7}, {8, 8}, {9, 8}, {100, 8},
            {MAX, 8}};
        for (int[] row : rows) {
            duePerPageOf("new(100, " + row[0] + ")", new BreakLines(100, row[0]), row[1]);
            BreakLines x = new BreakLines(100, 3);
            boolean within = row[0] == row[1];
            Check.due("size(1, " + row[0] + ")", x.size(1, row[0]), within ? 3 : -2);
            duePerPageOf("size(1, " + row[0] + ")", x, within ? row[0] : 3);
        }
    }

    private static void linesOfAPage() {
        for (int perPage = 1; perPage <= 8; perPage++) {
            BreakLines x = Check.lineForEachBar(Check.piece(100, perPage, 24, 100, 100));
            int fewest = (24 + perPage - 1) / perPage;
            Check.due(perPage + " a page: pages()", x.pages(), fewest);
            int lines = 0;
            for (int k = 0; k < x.pages(); k++) {
                int onPage = x.page(k, 1);
                Check.due("page " + k + " begins", x.page(k, 0), lines);
                Check.due("lines on page " + k + " may be", onPage >= 1 && onPage <= perPage, true);
                lines += onPage;
            }
            Check.due("they are all lines", lines, 24);
        }
    }

    private static void allBarsInLinesThatMayBe() {
        BreakLines x = new BreakLines(100, 3);
        for (int bar = 0; bar < 24; bar++) {
            x.bar(5 + bar * 7 % 40, 10 + bar * 11 % 90 + 40);
        }
        Check.markAll(x, Check.BARRED, 3, 8, 13, 23);
        Check.markAll(x, Check.FORCED, 5, 8, 22);
        int next = 0;
        for (int k = 0; k < x.lines(); k++) {
            int last = x.line(k, 1);
            Check.due("line " + k + " begins", x.line(k, 0), next);
            Check.due("line " + k + " has a bar", last >= next, true);
            Check.due("line " + k + " MAY BE", x.badness(next, last) != NOTHING, true);
            for (int bar = next; bar <= last; bar++) {
                Check.due("set(" + bar + ", 0)", x.set(bar, 0), k);
                Check.due("ends(" + bar + ")", x.ends(bar), bar == last);
            }
            next = last + 1;
        }
        Check.due("they are all bars", next, 24);
    }

    private static void countTellsTheLines() {
        BreakLines x = Check.piece(5000, 8, 24, 10, 10);
        Check.due("count(0), at first", x.count(0), 0);
        Check.due("any: lines()", x.lines(), 1);
        for (int n = 1; n <= 24; n++) {
            Check.due("count(" + n + ")", x.count(n), n - 1);
            Check.due(n + ": lines()", x.lines(), n);
        }
        for (int n : new int[] {25, -1, MIN, MAX}) {
            Check.due("count(" + n + ")", x.count(n), -2);
            Check.due("lines() as before", x.lines(), 24);
        }
        Check.due("count(0)", x.count(0), 24);
        Check.due("any again: lines()", x.lines(), 1);
        BreakLines y = Check.piece(5000, 8, 23, 10, 10);
        y.count(23);
        Check.due("23 lines of 23 bars", y.lines(), 23);
        y.count(24);
        Check.due("24 lines of 23 bars", y.lines(), -3);
        y.bar(10, 10);
        Check.due("24 lines of 24 bars", y.lines(), 24);
    }

    private static void countAndLinesThatMayBe() {
        BreakLines x = Check.stiff(100, 8, 40, 40, 40, 40);
        x.count(1);
        Check.due("too wide for one line", x.lines(), -3);
        x.count(2);
        Check.dueLastBars("two", x, 1, 3);
        x.mark(0, Check.FORCED, true);
        Check.due("FORCED, and two too wide", x.lines(), -3);
        x.count(3);
        Check.dueLastBars("three", x, 0, 2, 3);
        x.count(4);
        Check.dueLastBars("four", x, 0, 1, 2, 3);
        x.mark(2, Check.BARRED, true);
        Check.due("BARRED, so not four", x.lines(), -3);
        x.count(3);
        Check.dueLastBars("but three", x, 0, 1, 3);
    }

    // ---- Terms: costs

    private static void costsAtFirst() {
        BreakLines x = new BreakLines(100, 1);
        Check.due("SQUEEZE", x.cost(0, 0), 4);
        Check.due("TURN", x.cost(1, 0), 1000);
        Check.due("WIDOW", x.cost(2, 0), 500);
        Check.due("OVER", x.cost(3, 0), 100000);
        Check.due("STRETCH", x.cost(4, 0), 1);
    }

    /** Four lines that can't be others, on four pages: each COST once. */
    private static BreakLines oneOfEachCost() {
        BreakLines x = new BreakLines(100, 1);
        x.bar(100, 101);
        x.bar(99, 99);
        x.bar(101, 101);
        x.bar(100, 100);
        Check.markAll(x, Check.REST, 1, 2);
        return x;
    }

    private static void eachCost0To1000000() {
        int[] atFirst = {4, 1000, 500, 100000, 1};
        for (int kind = 0; kind < 5; kind++) {
            BreakLines x = oneOfEachCost();
            Check.due("sum()", x.sum(), 4 + 1000 + 500 + 100000 + 1);
            long others = x.sum() - atFirst[kind];
            int was = atFirst[kind];
            for (int v : new int[] {0, 1, 999999, 1000000}) {
                Check.due("cost(" + kind + ", " + v + ")", x.cost(kind, v), was);
                Check.due("sum()", x.sum(), others + v);
                was = v;
            }
            for (int v : new int[] {-1, 1000001, MIN, MAX}) {
                Check.due("cost(" + kind + ", " + v + ")", x.cost(kind, v), -2);
                Check.due("sum() as before", x.sum(), others + 1000000);
            }
        }
        for (int kind : new int[] {-1, 5, MIN, MAX}) {
            BreakLines x = oneOfEachCost();
            Check.due("cost(" + kind + ", 7)", x.cost(kind, 7), -2);
            Check.due("sum() as before", x.sum(), 4 + 1000 + 500 + 100000 + 1);
        }
    }

    private static void overIfLeastAboveTheWidth() {
        BreakLines x = new BreakLines(100, 8);
        x.bar(100, 101);
        x.bar(1, 1);
        Check.due("LEAST 100", x.badness(0, 0), 4);
        x.change(0, 101, 101);
        Check.due("LEAST 101", x.badness(0, 0), 100000);
        x.change(0, 101, 400);
        Check.due("LEAST 101, WISHED 400", x.badness(0, 0), 100000);
        x.change(0, 100, 400);
        Check.due("LEAST 100, WISHED 400", x.badness(0, 0), 4 * 300 * 300);
        x.size(0, 399);
        x.change(0, 400, 400);
        Check.due("LEAST 400, WIDTH 399", x.badness(0, 0), 100000);
        x.size(0, 400);
        Check.due("LEAST 400, WIDTH 400", x.badness(0, 0), 0);
    }

    private static void dBelowAndAbove0() {
        BreakLines x = Check.piece(100, 8, 3, 10, 50);
        Check.due("d is 0", x.badness(0, 1), 0);
        x.change(1, 10, 51);
        Check.due("d is -1", x.badness(0, 1), 4);
        x.change(1, 10, 52);
        Check.due("d is -2", x.badness(0, 1), 16);
        x.change(1, 10, 49);
        Check.due("d is 1", x.badness(0, 1), 1);
        x.change(1, 10, 48);
        Check.due("d is 2", x.badness(0, 1), 4);
        x.cost(Check.SQUEEZE, 0);
        x.cost(Check.STRETCH, 3);
        Check.due("d is 2, STRETCH 3", x.badness(0, 1), 12);
        x.change(1, 10, 52);
        Check.due("d is -2, SQUEEZE 0", x.badness(0, 1), 0);
    }

    private static void dFarOut() {
        BreakLines x = Check.piece(5000, 8, 2, 1, 1);
        x.cost(Check.STRETCH, 1000000);
        Check.due("d is 4999", x.badness(0, 0), 4999L * 4999L * 1000000L);
        BreakLines y = Check.piece(100, 8, 24, 1, 400);
        y.cost(Check.SQUEEZE, 1000000);
        Check.due("d is -9500", y.badness(0, 23), 9500L * 9500L * 1000000L);
        BreakLines z = Check.lineForEachBar(Check.piece(5000, 1, 24, 1, 1));
        Check.allCosts(z, 1000000);
        Check.due("the highest SUM", z.sum(), 23 * 4999L * 4999L * 1000000L + 24 * 1000000L);
    }

    private static void freeForTheLastLine() {
        BreakLines x = Check.stiff(100, 8, 99);
        Check.due("d is 1", x.badness(0, 0), 0);
        Check.due("d is 1: sum()", x.sum(), 0);
        x.bar(99, 99);
        Check.due("no longer the last", x.badness(0, 0), 1);
        Check.due("the last now", x.badness(1, 1), 0);
        Check.due("sum()", x.sum(), 1);
        x.change(1, 1, 1);
        x.size(0, 5000);
        x.mark(0, Check.FORCED, true);
        Check.due("d is 4999", x.badness(1, 1), 0);
        Check.due("d is 4999: sum()", x.sum(), 4901 * 4901);
    }

    private static void notFreeIfSqueezedOrOver() {
        BreakLines x = new BreakLines(100, 8);
        x.bar(100, 100);
        Check.due("d is 0", x.sum(), 0);
        x.change(0, 100, 101);
        Check.due("d is -1: badness(0, 0)", x.badness(0, 0), 4);
        Check.due("d is -1: sum()", x.sum(), 4);
        x.change(0, 101, 101);
        Check.due("OVER: badness(0, 0)", x.badness(0, 0), 100000);
        Check.due("OVER: sum()", x.sum(), 100000);
    }

    private static void turnUnlessRest() {
        BreakLines x = Check.stiff(100, 1, 50, 50, 100, 100);
        Check.due("no REST: page(0, 2)", x.page(0, 2), 1000);
        Check.due("no REST: sum()", x.sum(), 2500);
        x.mark(0, Check.REST, true);
        Check.due("a REST inside the line: page(0, 2)", x.page(0, 2), 1000);
        x.mark(2, Check.REST, true);
        Check.due("a REST on the next page: page(0, 2)", x.page(0, 2), 1000);
        Check.due("its own turn: page(1, 2)", x.page(1, 2), 0);
        x.mark(1, Check.REST, true);
        Check.due("a REST at the end: page(0, 2)", x.page(0, 2), 0);
        Check.due("two RESTs: sum()", x.sum(), 500);
        x.mark(1, Check.REST, false);
        Check.due("no longer: sum()", x.sum(), 1500);
    }

    private static void noTurnOfTheLastPage() {
        BreakLines x = Check.stiff(100, 2, 100, 100);
        Check.due("the only page", x.page(0, 2), 0);
        Check.due("sum()", x.sum(), 0);
        x.bar(100, 100);
        x.bar(100, 100);
        Check.dueLinesOnPages("two pages", x, 2, 2);
        Check.due("the first", x.page(0, 2), 1000);
        Check.due("the last", x.page(1, 2), 0);
        Check.due("sum()", x.sum(), 1000);
        x.mark(3, Check.REST, true);
        Check.due("a REST at the end of all", x.sum(), 1000);
    }

    private static void widowOfOneLine() {
        BreakLines x = Check.stiff(100, 2, 100, 100, 100);
        x.mark(1, Check.REST, true);
        Check.dueLinesOnPages("one line on the last page", x, 2, 1);
        Check.due("page(1, 2)", x.page(1, 2), 500);
        Check.due("sum()", x.sum(), 500);
        x.mark(2, Check.REST, true);
        Check.due("a REST frees no widow", x.page(1, 2), 500);
        x.bar(100, 100);
        Check.dueLinesOnPages("two lines on the last page", x, 2, 2);
        Check.due("page(1, 2)", x.page(1, 2), 0);
        Check.due("sum()", x.sum(), 0);
        x.mark(0, Check.REST, true);
        x.mark(1, Check.REST, false);
        x.bar(100, 100);
        Check.dueLinesOnPages("one line on the first page", x, 1, 2, 2);
        Check.due("page(0, 2)", x.page(0, 2), 0);
        Check.due("page(2, 2)", x.page(2, 2), 0);
        Check.due("sum()", x.sum(), 0);
    }

    private static void noWidowOnTheOnlyPage() {
        BreakLines x = Check.stiff(100, 1, 100);
        Check.due("the only line: page(0, 2)", x.page(0, 2), 0);
        Check.due("the only line: sum()", x.sum(), 0);
        x.bar(100, 100);
        x.mark(0, Check.REST, true);
        Check.due("two pages: page(1, 2)", x.page(1, 2), 500);
        Check.due("two pages: sum()", x.sum(), 500);
        x.size(1, 2);
        Check.due("one page: page(0, 2)", x.page(0, 2), 0);
        Check.due("one page: sum()", x.sum(), 0);
    }

    private static void theSumIsWhatAllCost() {
        // A new object for each COUNT, as one is used for 512 calls alone.
        for (int n = 0; n <= 20; n++) {
            BreakLines x = new BreakLines(150, 2);
            for (int bar = 0; bar < 20; bar++) {
                x.bar(20 + bar * 13 % 150, 30 + bar * 13 % 150 + bar % 3);
            }
            Check.markAll(x, Check.REST, 2, 7, 11, 12);
            x.count(n);
            int lines = x.lines();
            int pages = x.pages();
            long sum = lines < 0 ? NOTHING : 0;
            for (int k = 0; k < lines; k++) {
                sum += x.badness(x.line(k, 0), x.line(k, 1));
            }
            for (int k = 0; k < pages; k++) {
                sum += x.page(k, 2);
            }
            Check.due("COUNT " + n + ": sum()", x.sum(), sum);
        }
    }

    // ---- Terms: the best setting

    private static void leastSumFirst() {
        // One line, squeezed by 10, or two lines on two pages with a widow.
        BreakLines x = new BreakLines(100, 1);
        x.bar(10, 100);
        x.bar(10, 10);
        x.mark(0, Check.REST, true);
        x.cost(Check.WIDOW, 399);
        Check.dueLastBars("cheaper by 1, with more pages and lines", x, 0, 1);
        Check.due("sum()", x.sum(), 399);
        x.cost(Check.WIDOW, 400);
        Check.dueLastBars("as dear, with fewer", x, 1);
        Check.due("sum()", x.sum(), 400);
        x.cost(Check.WIDOW, 401);
        Check.dueLastBars("cheaper by 1, with fewer", x, 1);
        Check.due("sum()", x.sum(), 400);
    }

    private static void fewestPagesThen() {
        // Bar 2 ends a line or not; if not, turns are free on three pages alone.
        BreakLines x = Check.piece(100, 3, 6, 50, 50);
        Check.allCosts(x, 0);
        x.cost(Check.TURN, 1000);
        Check.markAll(x, Check.FORCED, 0, 1, 3, 4);
        Check.markAll(x, Check.REST, 0, 4);
        Check.dueLinesOnPages("five lines", x, 1, 3, 1);
        x.mark(2, Check.REST, true);
        Check.dueLinesOnPages("fewer pages, with a line more", x, 3, 3);
        Check.due("sum()", x.sum(), 0);
        // With bars 1 and 2 in one line, the second line is longer, on three pages.
        BreakLines y = Check.stiff(100, 2, 75, 75, 25, 75, 50);
        y.cost(Check.WIDOW, 0);
        Check.markAll(y, Check.REST, 0, 1, 3);
        Check.dueLastBars("fewer pages, with a shorter line", y, 0, 1, 3, 4);
        Check.dueLinesOnPages("fewer pages", y, 2, 2);
        Check.due("sum()", y.sum(), 1250);
        y.count(4);
        Check.dueLastBars("COUNT 4 likewise", y, 0, 1, 3, 4);
    }

    private static void fewestLinesThen() {
        BreakLines x = new BreakLines(100, 8);
        x.bar(80, 80);
        x.bar(20, 30);
        Check.dueLastBars("squeezed by 10 for 400, as stretched by 20", x, 1);
        Check.due("sum()", x.sum(), 400);
        x.change(1, 20, 31);
        Check.dueLastBars("squeezed by 11", x, 0, 1);
        Check.due("sum()", x.sum(), 400);
    }

    private static void fewestLinesAheadOfLongerOnes() {
        // Free on two pages: 0 | 1 2, 3 4 and, with a longer first line, 0 1, 2 | 3, 4.
        BreakLines x = Check.stiff(100, 2, 50, 40, 50, 60, 40);
        x.cost(Check.STRETCH, 0);
        x.mark(2, Check.FORCED, true);
        Check.markAll(x, Check.REST, 0, 2);
        Check.dueLastBars("three lines", x, 0, 2, 4);
        Check.dueLinesOnPages("three lines", x, 1, 2);
        Check.due("sum()", x.sum(), 0);
        x.count(4);
        Check.dueLastBars("four lines", x, 1, 2, 3, 4);
        Check.dueLinesOnPages("four lines", x, 2, 2);
        Check.due("as dear", x.sum(), 0);
    }

    private static void moreBarsInTheFirstLine() {
        BreakLines x = Check.stiff(100, 8, 50, 50, 50);
        x.cost(Check.STRETCH, 0);
        Check.dueLastBars("the first line", x, 1, 2);
        x.mark(1, Check.BARRED, true);
        Check.dueLastBars("BARRED", x, 0, 2);
        BreakLines y = Check.stiff(100, 8, 100, 50, 50, 50);
        y.cost(Check.STRETCH, 0);
        Check.dueLastBars("the second line", y, 0, 2, 3);
        BreakLines z = Check.piece(5000, 8, 24, 1, 1);
        z.cost(Check.STRETCH, 0);
        z.count(2);
        Check.dueLastBars("23 bars and one", z, 22, 23);
    }

    private static void longerLinesAheadOfFullerPages() {
        // Free: 0 | 1 2, 3 and 0, 1 | 2 3.
        BreakLines x = Check.stiff(100, 2, 50, 50, 50, 25);
        x.cost(Check.STRETCH, 0);
        x.cost(Check.WIDOW, 0);
        x.mark(0, Check.FORCED, true);
        Check.markAll(x, Check.REST, 0, 1);
        Check.dueLastBars("the longer second line", x, 0, 2, 3);
        Check.dueLinesOnPages("the shorter first page", x, 1, 2);
        Check.due("sum()", x.sum(), 0);
    }

    private static void moreLinesOnTheFirstPage() {
        BreakLines x = Check.stiff(100, 2, 100, 50, 100);
        x.cost(Check.WIDOW, 0);
        Check.dueLinesOnPages("the first page", x, 2, 1);
        x.cost(Check.WIDOW, 1);
        Check.dueLinesOnPages("dearer by 1", x, 1, 2);
        BreakLines y = Check.stiff(100, 2, 100, 100, 100, 100, 50);
        y.cost(Check.WIDOW, 0);
        y.mark(1, Check.REST, true);
        Check.dueLinesOnPages("the second page", y, 2, 2, 1);
        BreakLines z = Check.lineForEachBar(Check.piece(100, 8, 24, 100, 100));
        z.size(1, 7);
        Check.dueLinesOnPages("24 lines, 7 a page", z, 7, 7, 7, 3);
        z.size(1, 8);
        Check.dueLinesOnPages("24 lines, 8 a page", z, 8, 8, 8);
    }

    // ---- Terms: bars are set

    private static void overIsSetLeast() {
        BreakLines x = new BreakLines(100, 8);
        x.bar(101, 400);
        Check.due("LEAST 101", x.set(0, 1), 101);
        x.change(0, 100, 400);
        Check.due("LEAST 100, just not OVER", x.set(0, 1), 100);
        x.change(0, 400, 400);
        Check.due("LEAST 400", x.set(0, 1), 400);
        Check.due("none before it", x.set(0, 2), 0);
    }

    private static void dOf0IsSetWished() {
        BreakLines x = Check.piece(100, 8, 2, 10, 50);
        x.change(0, 10, 37);
        x.change(1, 10, 63);
        Check.dueSetWidths("d is 0", x, 37, 63);
        Check.due("set(1, 2)", x.set(1, 2), 37);
    }

    private static void stretchedSharesRoundedDown() {
        BreakLines x = Check.stiff(100, 8, 33, 33, 33);
        Check.dueSetWidths("1 by thirds: 0, 0, 1", x, 33, 33, 34);
        Check.due("set(2, 2)", x.set(2, 2), 66);
        x.size(0, 101);
        Check.dueSetWidths("2 by thirds: 0, 1, 2", x, 33, 34, 34);
        Check.due("set(2, 2)", x.set(2, 2), 67);
        x.size(0, 102);
        Check.dueSetWidths("3 by thirds", x, 34, 34, 34);
        BreakLines y = new BreakLines(101, 8);
        y.bar(1, 20);
        y.bar(29, 30);
        y.bar(10, 10);
        Check.dueSetWidths("41 by 20, 50, 60 of 60: 13, 34, 41", y, 33, 51, 17);
        BreakLines z = Check.piece(5000, 8, 24, 1, 1);
        for (int bar = 0; bar < 24; bar++) {
            Check.due("set(" + bar + ", 2) of 4976 by 24ths", z.set(bar, 2), bar + 4976 * bar / 24);
        }
    }

    private static void squeezedSharesRoundedDown() {
        BreakLines x = new BreakLines(100, 8);
        x.bar(32, 33);
        x.bar(32, 33);
        x.bar(33, 35);
        x.count(1);
        Check.dueSetWidths("1 by 1, 2, 4 of 4: 0, 0, 1", x, 33, 33, 34);
        x.change(1, 33, 34);
        x.change(2, 34, 36);
        Check.dueSetWidths("3 by 1, 2, 4 of 4: 0, 1, 3", x, 33, 33, 34);
        Check.due("set(2, 2)", x.set(2, 2), 66);
        x.change(1, 50, 50);
        x.change(2, 18, 20);
        Check.dueSetWidths("a bar of LEAST as WISHED gives nothing", x, 32, 50, 18);
        x.change(2, 18, 19);
        Check.dueSetWidths("2 by 1, 1, 2 of 2: all LEAST", x, 32, 50, 18);
        BreakLines y = Check.piece(100, 8, 24, 1, 400);
        y.count(1);
        for (int bar = 0; bar < 24; bar++) {
            int given = 9500 * (399 * bar) / (399 * 24);
            Check.due("set(" + bar + ", 2) of -9500 by 24ths", y.set(bar, 2), 400 * bar - given);
        }
    }

    private static void eachLineFillsTheWidth() {
        BreakLines x = new BreakLines(117, 3);
        for (int bar = 0; bar < 24; bar++) {
            x.bar(7 + bar * 5 % 30, 11 + bar * 17 % 60 + 30);
        }
        for (int k = 0; k < x.lines(); k++) {
            int last = x.line(k, 1);
            Check.due("nothing is before the first bar", x.set(x.line(k, 0), 2), 0);
            for (int bar = x.line(k, 0); bar < last; bar++) {
                Check.due("the next begins behind it", x.set(bar + 1, 2), x.set(bar, 2) + x.set(bar, 1));
            }
            Check.due("line " + k + " is full", x.set(last, 2) + x.set(last, 1), 117);
        }
    }

    // ---- ahead of the calls

    private static void withoutBars() {
        BreakLines x = new BreakLines(100, 1);
        Check.due("lines()", x.lines(), 0);
        Check.due("pages()", x.pages(), 0);
        Check.due("sum()", x.sum(), 0);
        Check.due("line(0, 0)", x.line(0, 0), -1);
        Check.due("page(0, 0)", x.page(0, 0), -1);
        Check.due("set(0, 0)", x.set(0, 0), -1);
        Check.due("ends(0)", x.ends(0), false);
        Check.due("badness(0, 0)", x.badness(0, 0), NOTHING);
        Check.due("would(0, 0)", x.would(0, 0), NOTHING);
        x.bar(10, 10);
        Check.due("with one: lines()", x.lines(), 1);
        Check.due("with one: pages()", x.pages(), 1);
        Check.due("with one: sum()", x.sum(), 0);
    }

    private static void withoutBarsButACount() {
        for (int n : new int[] {1, 24}) {
            BreakLines x = new BreakLines(100, 1);
            x.count(n);
            Check.due("lines()", x.lines(), -3);
            Check.due("pages()", x.pages(), -3);
            Check.due("sum()", x.sum(), NOTHING);
            Check.due("line(0, 0)", x.line(0, 0), -3);
            Check.due("page(0, 0)", x.page(0, 0), -3);
            Check.due("set(0, 0)", x.set(0, 0), -1);
            Check.due("ends(0)", x.ends(0), false);
            x.count(0);
            Check.due("COUNT 0: lines()", x.lines(), 0);
            Check.due("COUNT 0: sum()", x.sum(), 0);
        }
    }

    private static void mostLinesAndPages() {
        BreakLines x = Check.lineForEachBar(Check.piece(100, 1, 24, 100, 100));
        Check.due("lines()", x.lines(), 24);
        Check.due("pages()", x.pages(), 24);
        Check.due("line(23, 0)", x.line(23, 0), 23);
        Check.due("line(23, 1)", x.line(23, 1), 23);
        Check.due("line(23, 2)", x.line(23, 2), 23);
        Check.due("line(24, 0)", x.line(24, 0), -1);
        Check.due("page(23, 0)", x.page(23, 0), 23);
        Check.due("page(23, 1)", x.page(23, 1), 1);
        Check.due("page(23, 2)", x.page(23, 2), 500);
        Check.due("page(24, 0)", x.page(24, 0), -1);
        Check.due("sum()", x.sum(), 23 * 1000 + 500);
    }

    private static void endsBehindABar() {
        BreakLines x = Check.stiff(100, 8, 50, 50, 50, 50, 50);
        boolean[] want = {false, true, false, true, true};
        for (int bar = 0; bar < 5; bar++) {
            Check.due("ends(" + bar + ")", x.ends(bar), want[bar]);
        }
        for (int bar : new int[] {-1, 5, 23, 24, MIN, MAX}) {
            Check.due("no such bar: ends(" + bar + ")", x.ends(bar), false);
        }
        x.count(2);
        for (int bar = 0; bar < 5; bar++) {
            Check.due("no SETTING: ends(" + bar + ")", x.ends(bar), false);
        }
        x.count(3);
        Check.due("a SETTING again: ends(1)", x.ends(1), true);
        x.mark(0, Check.FORCED, true);
        Check.due("another SETTING: ends(0)", x.ends(0), true);
        Check.due("another SETTING: ends(1)", x.ends(1), false);
    }

    private static void noSettingAndThenOne() {
        BreakLines x = Check.stiff(100, 8, 60, 60);
        Check.due("two lines: sum()", x.sum(), 1600);
        x.mark(0, Check.BARRED, true);
        Check.due("none: lines()", x.lines(), -3);
        Check.due("none: pages()", x.pages(), -3);
        Check.due("none: sum()", x.sum(), NOTHING);
        Check.due("none: line(0, 0)", x.line(0, 0), -3);
        Check.due("none: page(0, 0)", x.page(0, 0), -3);
        Check.due("none: set(0, 0)", x.set(0, 0), -3);
        Check.due("none: badness(1, 1)", x.badness(1, 1), 0);
        x.size(0, 120);
        Check.due("one line: lines()", x.lines(), 1);
        Check.due("one line: sum()", x.sum(), 0);
        x.size(0, 119);
        Check.due("too narrow by 1: lines()", x.lines(), -3);
        x.mark(0, Check.BARRED, false);
        Check.due("two lines again: sum()", x.sum(), 59 * 59);
    }

    private static void aMarkMore() {
        BreakLines x = Check.stiff(100, 1, 60, 60, 40);
        Check.due("0 | 1 2: sum()", x.sum(), 1600 + 1000 + 500);
        Check.due("FORCED: 0 | 1 | 2", x.would(1, Check.FORCED), 1600 + 1600 + 2000 + 500);
        Check.due("FORCED where a line ends", x.would(0, Check.FORCED), 3100);
        Check.due("REST at a turn", x.would(0, Check.REST), 2100);
        Check.due("REST inside a line", x.would(1, Check.REST), 3100);
        Check.due("BARRED, and too wide", x.would(0, Check.BARRED), NOTHING);
        Check.due("BARRED inside a line", x.would(1, Check.BARRED), 3100);
        Check.due("BARRED at the end of all", x.would(2, Check.BARRED), 3100);
        Check.due("nothing is marked: sum()", x.sum(), 3100);
        x.mark(0, Check.REST, true);
        Check.due("a MARK that is on", x.would(0, Check.REST), 2100);
        Check.due("it is on still", x.mark(0, Check.REST, true), 1);
        x.mark(0, Check.BARRED, true);
        Check.due("no SETTING, and a MARK more", x.would(1, Check.REST), NOTHING);
        Check.due("FORCED makes one", x.would(0, Check.FORCED), 2100);
        Check.due("none without it", x.sum(), NOTHING);
    }

    private static void toNotBeforeFrom() {
        BreakLines x = Check.stiff(100, 8, 30, 30, 30);
        Check.due("badness(1, 1)", x.badness(1, 1), 70 * 70);
        Check.due("badness(1, 2)", x.badness(1, 2), 0);
        Check.due("badness(1, 0)", x.badness(1, 0), NOTHING);
        Check.due("badness(2, 0)", x.badness(2, 0), NOTHING);
        Check.due("badness(0, 0)", x.badness(0, 0), 70 * 70);
        Check.due("badness(-1, 0)", x.badness(-1, 0), NOTHING);
        Check.due("badness(0, -1)", x.badness(0, -1), NOTHING);
        Check.due("badness(2, 2)", x.badness(2, 2), 0);
        Check.due("badness(2, 3)", x.badness(2, 3), NOTHING);
        Check.due("badness(3, 3)", x.badness(3, 3), NOTHING);
        Check.due("badness(MIN, 0)", x.badness(MIN, 0), NOTHING);
        Check.due("badness(0, MAX)", x.badness(0, MAX), NOTHING);
        Check.due("badness(MIN, MAX)", x.badness(MIN, MAX), NOTHING);
        Check.due("badness(MAX, MAX)", x.badness(MAX, MAX), NOTHING);
    }

    private static void dAs1000000AndD() {
        BreakLines x = Check.stiff(100, 8, 100);
        Check.due("d is 0", x.line(0, 3), 1000000);
        x.change(0, 99, 99);
        Check.due("d is 1", x.line(0, 3), 1000001);
        x.change(0, 99, 101);
        Check.due("d is -1", x.line(0, 3), 999999);
        x.change(0, 101, 101);
        Check.due("d is -1, OVER", x.line(0, 3), 999999);
        x.change(0, 1, 1);
        x.size(0, 5000);
        Check.due("d is 4999", x.line(0, 3), 1004999);
        BreakLines y = Check.piece(100, 8, 24, 1, 400);
        y.count(1);
        Check.due("d is -9500", y.line(0, 3), 990500);
    }

    private static void askWhatBars() {
        Check.sentence("at most 512 calls", BoundsTest::used512Times);
        Check.sentence("BARS 0, 1, ..", BoundsTest::barsFromZero);
        Check.sentence("(24 at most)", BoundsTest::barsAtMost24);
        Check.sentence("a LEAST .. (1 to 400", BoundsTest::leastFrom1To400);
        Check.sentence("a WISHED width (1 to 400", BoundsTest::wishedFrom1To400);
        Check.sentence("LEAST not above WISHED", BoundsTest::leastNotAboveWished);
        Check.sentence("MARKS: 0 FORCED, 1 BARRED, 2 REST", BoundsTest::marks0To2);
    }

    private static void askWhatLinesAndPages() {
        Check.sentence("none of its bars but the last one is FORCED", BoundsTest::noneButTheLastForced);
        Check.sentence("its last one is not BARRED", BoundsTest::theLastNotBarred);
        Check.sentence("or is FORCED", BoundsTest::barredButForced);
        Check.sentence("or is the last of all bars", BoundsTest::barredButTheLastOfAll);
        Check.sentence("LEAST together are not above the WIDTH", BoundsTest::leastNotAboveTheWidth);
        Check.sentence("or it has one bar", BoundsTest::orItHasOneBar);
        Check.sentence("the WIDTH (100 to 5000)", BoundsTest::width100To5000);
        Check.sentence("PER PAGE (1 to 8)", BoundsTest::perPage1To8);
        Check.sentence("PAGES have one line or more, PER PAGE at most", BoundsTest::linesOfAPage);
        Check.sentence("parts all bars in lines that MAY BE", BoundsTest::allBarsInLinesThatMayBe);
        Check.sentence("the COUNT tells how many lines, if it is not 0", BoundsTest::countTellsTheLines);
        Check.sentence("lines that MAY BE (the COUNT tells how many", BoundsTest::countAndLinesThatMayBe);
    }

    private static void askWhatCosts() {
        Check.sentence("(at first 4), (1000), (500), (100000), (1)", BoundsTest::costsAtFirst);
        Check.sentence("each 0 to 1000000", BoundsTest::eachCost0To1000000);
        Check.sentence("OVER, if the LEAST .. are above the WIDTH", BoundsTest::overIfLeastAboveTheWidth);
        Check.sentence("if d is below 0, SQUEEZE; above 0, STRETCH", BoundsTest::dBelowAndAbove0);
        Check.sentence("times d times d", BoundsTest::dFarOut);
        Check.sentence("but 0 for the last line", BoundsTest::freeForTheLastLine);
        Check.sentence("OVER; else, if d is below 0, SQUEEZE", BoundsTest::notFreeIfSqueezedOrOver);
        Check.sentence("costs TURN, if its last bar has no REST", BoundsTest::turnUnlessRest);
        Check.sentence("A page but the last one costs TURN", BoundsTest::noTurnOfTheLastPage);
        Check.sentence("The last page costs WIDOW, if it has one line", BoundsTest::widowOfOneLine);
        Check.sentence("and is not the only one", BoundsTest::noWidowOnTheOnlyPage);
        Check.sentence("THE SUM of a SETTING is what all cost", BoundsTest::theSumIsWhatAllCost);
    }

    private static void askWhatIsBest() {
        Check.sentence("has the least SUM", BoundsTest::leastSumFirst);
        Check.sentence("of these the fewest pages", BoundsTest::fewestPagesThen);
        Check.sentence("the fewest lines", BoundsTest::fewestLinesThen);
        Check.sentence("the fewest lines; then", BoundsTest::fewestLinesAheadOfLongerOnes);
        Check.sentence("the one that has more bars in it", BoundsTest::moreBarsInTheFirstLine);
        Check.sentence("with the same lines, at the first page", BoundsTest::longerLinesAheadOfFullerPages);
        Check.sentence("the one that has more lines on it", BoundsTest::moreLinesOnTheFirstPage);
    }

    private static void askHowBarsAreSet() {
        Check.sentence("If the line is OVER: LEAST", BoundsTest::overIsSetLeast);
        Check.sentence("If d is 0 or more", BoundsTest::dOf0IsSetWished);
        Check.sentence("by the WISHED of all of them, rounded down", BoundsTest::stretchedSharesRoundedDown);
        Check.sentence("by WISHED less LEAST in place of WISHED", BoundsTest::squeezedSharesRoundedDown);
        Check.sentence("what is the share up to it less the share up to the bar before",
                BoundsTest::eachLineFillsTheWidth);
    }

    private static void askWhatElse() {
        Check.sentence("without bars it has no lines, no pages, THE SUM 0", BoundsTest::withoutBars);
        Check.sentence("with a COUNT above 0 there is none", BoundsTest::withoutBarsButACount);
        Check.sentence("How many lines it has. How many pages.", BoundsTest::mostLinesAndPages);
        Check.sentence("3 d, as 1000000 and d", BoundsTest::dAs1000000AndD);
        Check.sentence("-3 there is no SETTING", BoundsTest::noSettingAndThenOne);
        Check.sentence("Whether a line ends behind a bar", BoundsTest::endsBehindABar);
        Check.sentence("What a line from a bar to another one would cost", BoundsTest::toNotBeforeFrom);
        Check.sentence("THE SUM .. if a bar had a MARK more", BoundsTest::aMarkMore);
    }

    public static void main(String[] args) {
        askWhatBars();
        askWhatLinesAndPages();
        askWhatCosts();
        askWhatIsBest();
        askHowBarsAreSet();
        askWhatElse();
        Check.end();
    }
}
