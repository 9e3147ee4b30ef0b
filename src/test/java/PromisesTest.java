/** Each promise of the document by hand: ordinary inputs, the edges it names, wrong inputs. */
public final class PromisesTest {
    private static final int SQUEEZE = Check.SQUEEZE;
    private static final int TURN = Check.TURN;
    private static final int WIDOW = Check.WIDOW;
    private static final int OVER = Check.OVER;
    private static final int STRETCH = Check.STRETCH;
    private static final int FORCED = Check.FORCED;
    private static final int BARRED = Check.BARRED;
    private static final int REST = Check.REST;

    private PromisesTest() {
    }

    private static void newObject() {
        int[][] rows = {
            {99, 0, 100, 1}, {100, 1, 100, 1}, {101, 2, 101, 2}, {4999, 7, 4999, 7},
            {5000, 8, 5000, 8}, {5001, 9, 5000, 8}, {-1, -1, 100, 1},
            {Integer.MIN_VALUE, Integer.MIN_VALUE, 100, 1},
            {Integer.MAX_VALUE, Integer.MAX_VALUE, 5000, 8}};
        for (int[] row : rows) {
            BreakLines x = new BreakLines(row[0], row[1]);
            String made = "new(" + row[0] + ", " + row[1] + ")";
            Check.due(made + ".bars()", x.bars(), 0);
            Check.due(made + ".size(0, 100)", x.size(0, 100), row[2]);
            Check.due(made + ".size(1, 1)", x.size(1, 1), row[3]);
            Check.due(made + ".count(0)", x.count(0), 0);
            Check.due(made + ".cost(SQUEEZE)", x.cost(SQUEEZE, 0), 4);
            Check.due(made + ".cost(TURN)", x.cost(TURN, 0), 1000);
            Check.due(made + ".cost(WIDOW)", x.cost(WIDOW, 0), 500);
            Check.due(made + ".cost(OVER)", x.cost(OVER, 0), 100000);
            Check.due(made + ".cost(STRETCH)", x.cost(STRETCH, 0), 1);
        }
        Check.due("NOTHING", BreakLines.NOTHING, -1L);
    }

    private static void bar() {
        BreakLines x = new BreakLines(100, 1);
        Check.due("bar(1, 1)", x.bar(1, 1), 0);
        Check.due("bar(400, 400)", x.bar(400, 400), 1);
        Check.due("bar(1, 400)", x.bar(1, 400), 2);
        Check.due("bar(0, 1)", x.bar(0, 1), -2);
        Check.due("bar(0, 0)", x.bar(0, 0), -2);
        Check.due("bar(1, 401)", x.bar(1, 401), -2);
        Check.due("bar(3, 2)", x.bar(3, 2), -2);
        Check.due("bar(-5, -4)", x.bar(-5, -4), -2);
        Check.due("bar(MIN, MAX)", x.bar(Integer.MIN_VALUE, Integer.MAX_VALUE), -2);
        Check.due("bars() after refusals", x.bars(), 3);
        for (int bar = 3; bar < 24; bar++) {
            Check.due("bar(2, 3)", x.bar(2, 3), bar);
        }
        Check.due("bar(2, 3) when full", x.bar(2, 3), -4);
        Check.due("bar(3, 2) when full", x.bar(3, 2), -2);
        Check.due("bars() when full", x.bars(), 24);
        Check.due("the 24th bar has no FORCED", x.mark(23, FORCED, false), 0);
        Check.due("the 24th bar has no BARRED", x.mark(23, BARRED, false), 0);
        Check.due("the 24th bar has no REST", x.mark(23, REST, false), 0);
    }

    private static void change() {
        BreakLines x = Check.piece(100, 2, 3, 30, 40);
        x.mark(1, REST, true);
        Check.due("sum() ahead of change", x.sum(), 400);
        Check.due("change(1, 50, 60)", x.change(1, 50, 60), 1);
        Check.due("badness(0, 1) after it", x.badness(0, 1), 0);
        Check.due("badness(1, 2) after it", x.badness(1, 2), 0);
        Check.due("badness(0, 2) after it", x.badness(0, 2), -1);
        Check.due("sum() after it", x.sum(), 0);
        Check.due("a mark stays", x.mark(1, REST, true), 1);
        Check.due("change(-1, 1, 1)", x.change(-1, 1, 1), -1);
        Check.due("change(3, 1, 1)", x.change(3, 1, 1), -1);
        Check.due("change(3, 0, 1)", x.change(3, 0, 1), -1);
        Check.due("change(0, 0, 1)", x.change(0, 0, 1), -2);
        Check.due("change(0, 2, 1)", x.change(0, 2, 1), -2);
        Check.due("change(0, 1, 401)", x.change(0, 1, 401), -2);
        Check.due("change(MIN, 1, 1)", x.change(Integer.MIN_VALUE, 1, 1), -1);
        Check.due("change(MAX, 1, 1)", x.change(Integer.MAX_VALUE, 1, 1), -1);
        Check.due("refusals change nothing", x.badness(0, 0), 3600);
        Check.due("change(0, 400, 400)", x.change(0, 400, 400), 1);
        Check.due("change(0, 1, 1)", x.change(0, 1, 1), 1);
        Check.due("badness(0, 0) after it", x.badness(0, 0), 99 * 99);
        Check.due("badness(2, 2) after it", x.badness(2, 2), 0);
    }

    private static void mark() {
        BreakLines x = Check.piece(1000, 2, 3, 30, 40);
        for (int mark = 0; mark < 3; mark++) {
            Check.due("a mark is off at first", x.mark(1, mark, false), 0);
            Check.due("it goes on", x.mark(1, mark, true), 0);
            Check.due("it is on", x.mark(1, mark, true), 1);
            Check.due("no other bar has it", x.mark(0, mark, false) + x.mark(2, mark, false), 0);
            Check.due("it goes off", x.mark(1, mark, false), 1);
            Check.due("it is off", x.mark(1, mark, false), 0);
        }
        Check.due("mark(-1, 0)", x.mark(-1, 0, true), -1);
        Check.due("mark(3, 0)", x.mark(3, 0, true), -1);
        Check.due("mark(3, 3)", x.mark(3, 3, true), -1);
        Check.due("mark(0, 3)", x.mark(0, 3, true), -2);
        Check.due("mark(0, -1)", x.mark(0, -1, true), -2);
        Check.due("mark(MAX, MAX)", x.mark(Integer.MAX_VALUE, Integer.MAX_VALUE, true), -1);
        Check.due("mark(32, 0)", x.mark(32, 0, true), -1);
        Check.dueLastBars("no marks", x, 2);
        x.mark(0, FORCED, true);
        Check.dueLastBars("bar 0 FORCED", x, 0, 2);
        x.mark(0, BARRED, true);
        Check.dueLastBars("bar 0 FORCED and BARRED", x, 0, 2);
        x.mark(2, BARRED, true);
        Check.dueLastBars("the last bar BARRED", x, 0, 2);
        x.mark(1, FORCED, true);
        Check.dueLastBars("bars 0 and 1 FORCED", x, 0, 1, 2);
        Check.due("a FORCED bar is no inner one", x.badness(0, 1), -1);
    }

    private static void cost() {
        BreakLines x = Check.piece(100, 1, 3, 60, 60);
        for (int kind = 0; kind < 5; kind++) {
            int was = x.cost(kind, 1000000);
            Check.due("cost(1000000) stays", x.cost(kind, 0), 1000000);
            Check.due("cost(0) stays", x.cost(kind, was), 0);
            Check.due("cost(-1)", x.cost(kind, -1), -2);
            Check.due("cost(1000001)", x.cost(kind, 1000001), -2);
            Check.due("refusals change nothing", x.cost(kind, was), was);
        }
        Check.due("cost(-1, 5)", x.cost(-1, 5), -2);
        Check.due("cost(5, 5)", x.cost(5, 5), -2);
        Check.due("cost(MIN, MIN)", x.cost(Integer.MIN_VALUE, Integer.MIN_VALUE), -2);
        Check.due("sum()", x.sum(), 5700);
        x.cost(STRETCH, 2);
        Check.due("sum(), STRETCH 2", x.sum(), 8900);
        x.cost(TURN, 7);
        Check.due("sum(), TURN 7", x.sum(), 6914);
        x.cost(WIDOW, 3);
        Check.due("sum(), WIDOW 3", x.sum(), 6417);
        x.change(2, 60, 110);
        x.cost(SQUEEZE, 5);
        Check.due("sum(), SQUEEZE 5", x.sum(), 6917);
        x.change(2, 101, 110);
        x.cost(OVER, 9);
        Check.due("sum(), OVER 9", x.sum(), 6426);
        dearestSums();
    }

    private static void dearestSums() {
        BreakLines x = Check.piece(5000, 1, 24, 1, 1);
        for (int kind = 0; kind < 5; kind++) {
            x.cost(kind, 1000000);
        }
        for (int bar = 0; bar < 24; bar++) {
            x.mark(bar, FORCED, true);
        }
        long line = 4999L * 4999L * 1000000L;
        Check.due("24 lines as short as can be", x.sum(), 23 * line + 24 * 1000000L);
        BreakLines y = Check.piece(100, 1, 24, 1, 400);
        y.cost(SQUEEZE, 1000000);
        y.count(1);
        Check.due("a line as full as can be", y.sum(), 9500L * 9500L * 1000000L);
        Check.due("its d", y.line(0, 3), 1000000 - 9500);
        Check.due("its last bar's end", y.set(23, 2) + y.set(23, 1), 100);
    }

    private static void count() {
        BreakLines x = Check.piece(1000, 2, 4, 30, 40);
        Check.due("count(0)", x.count(0), 0);
        Check.due("count(24)", x.count(24), 0);
        Check.due("count(25)", x.count(25), -2);
        Check.due("count(-1)", x.count(-1), -2);
        Check.due("count(MAX)", x.count(Integer.MAX_VALUE), -2);
        Check.due("count(5)", x.count(5), 24);
        Check.due("more lines than bars", x.lines(), -3);
        x.count(4);
        Check.dueLastBars("count 4", x, 0, 1, 2, 3);
        x.count(2);
        Check.dueLastBars("count 2", x, 2, 3);
        x.mark(0, FORCED, true);
        x.mark(2, FORCED, true);
        Check.due("fewer lines than FORCED wants", x.lines(), -3);
        x.count(0);
        Check.dueLastBars("any count", x, 0, 2, 3);
        BreakLines full = Check.piece(1000, 3, 24, 30, 40);
        full.count(24);
        Check.due("24 lines", full.lines(), 24);
        Check.due("24 lines on pages of 3", full.pages(), 8);
    }

    private static void size() {
        BreakLines x = Check.piece(100, 1, 2, 30, 60);
        Check.due("size(0, 100)", x.size(0, 100), 100);
        Check.due("size(0, 5000)", x.size(0, 5000), 100);
        Check.due("size(0, 5001)", x.size(0, 5001), -2);
        Check.due("size(0, 99)", x.size(0, 99), -2);
        Check.due("size(0, 120)", x.size(0, 120), 5000);
        Check.due("size(1, 8)", x.size(1, 8), 1);
        Check.due("size(1, 9)", x.size(1, 9), -2);
        Check.due("size(1, 0)", x.size(1, 0), -2);
        Check.due("size(1, 100)", x.size(1, 100), -2);
        Check.due("size(0, 8)", x.size(0, 8), -2);
        Check.due("size(2, 100)", x.size(2, 100), -2);
        Check.due("size(-1, 8)", x.size(-1, 8), -2);
        Check.due("sum() at width 120", x.sum(), 0);
        Check.due("size(0, 110)", x.size(0, 110), 120);
        Check.due("sum() at width 110", x.sum(), 400);
        x.count(2);
        Check.dueLinesOnPages("8 a page", x, 2);
        Check.due("size(1, 1)", x.size(1, 1), 8);
        Check.dueLinesOnPages("1 a page", x, 1, 1);
    }

    private static void bars() {
        BreakLines x = new BreakLines(100, 1);
        for (int bar = 0; bar < 30; bar++) {
            Check.due("bars()", x.bars(), Math.min(bar, 24));
            x.bar(5, 6);
        }
    }

    private static void withoutBars() {
        BreakLines x = new BreakLines(100, 1);
        Check.due("lines() of none", x.lines(), 0);
        Check.due("pages() of none", x.pages(), 0);
        Check.due("sum() of none", x.sum(), 0);
        Check.due("line(0, 9) of none", x.line(0, 9), -1);
        Check.due("page(0, 9) of none", x.page(0, 9), -1);
        Check.due("set(0, 9) of none", x.set(0, 9), -1);
        Check.due("ends(0) of none", x.ends(0), false);
        Check.due("badness(0, 0) of none", x.badness(0, 0), -1);
        Check.due("would(0, 0) of none", x.would(0, 0), -1);
        x.count(1);
        Check.due("lines(), COUNT 1", x.lines(), -3);
        Check.due("pages(), COUNT 1", x.pages(), -3);
        Check.due("sum(), COUNT 1", x.sum(), -1);
        Check.due("line(0, 9), COUNT 1", x.line(0, 9), -3);
        Check.due("page(0, 9), COUNT 1", x.page(0, 9), -3);
        Check.due("set(0, 9), COUNT 1", x.set(0, 9), -1);
    }

    private static void linesAndPages() {
        BreakLines x = Check.piece(100, 2, 5, 50, 50);
        Check.dueLastBars("two bars a line", x, 1, 3, 4);
        x.bar(50, 50);
        Check.dueLastBars("a bar more", x, 1, 3, 5);
        Check.dueLinesOnPages("a turn, and no widow if it can be", x, 1, 2);
        Check.due("sum()", x.sum(), 1000);
        x.mark(3, REST, true);
        Check.dueLinesOnPages("a turn at a REST is worth a widow", x, 2, 1);
        Check.due("sum()", x.sum(), 500);
        x.mark(1, REST, true);
        Check.dueLinesOnPages("a turn at a REST, no widow", x, 1, 2);
        Check.due("sum()", x.sum(), 0);
        x.cost(WIDOW, 0);
        Check.dueLinesOnPages("as dear: more lines on the first page", x, 2, 1);
        x.mark(1, BARRED, true);
        x.mark(2, BARRED, true);
        x.mark(3, BARRED, true);
        Check.due("no SETTING: lines()", x.lines(), -3);
        Check.due("no SETTING: pages()", x.pages(), -3);
        Check.due("no SETTING: sum()", x.sum(), -1);
        Check.due("no SETTING: line(0, 0)", x.line(0, 0), -3);
        Check.due("no SETTING: line(-1, 9)", x.line(-1, 9), -3);
        Check.due("no SETTING: page(0, 0)", x.page(0, 0), -3);
        Check.due("no SETTING: page(-1, 9)", x.page(-1, 9), -3);
        Check.due("no SETTING: set(0, 0)", x.set(0, 0), -3);
        Check.due("no SETTING: set(0, 3)", x.set(0, 3), -2);
        Check.due("no SETTING: set(6, 3)", x.set(6, 3), -1);
        Check.due("no SETTING: ends(0)", x.ends(0), false);
        Check.due("no SETTING: ends(5)", x.ends(5), false);
    }

    private static void equalSums() {
        BreakLines x = Check.piece(100, 8, 4, 10, 10);
        for (int kind = 0; kind < 5; kind++) {
            x.cost(kind, 0);
        }
        Check.dueLastBars("all free: fewest lines", x, 3);
        x.count(3);
        Check.dueLastBars("three lines: the first has most bars", x, 1, 2, 3);
        x.mark(1, BARRED, true);
        Check.dueLastBars("bar 1 may end none", x, 0, 2, 3);
        x.mark(1, BARRED, false);
        x.size(1, 2);
        Check.dueLinesOnPages("fewest pages, most lines on the first", x, 2, 1);
        x.count(0);
        x.mark(0, FORCED, true);
        x.size(1, 1);
        Check.dueLastBars("fewest pages", x, 0, 3);
        fewerPagesAheadOfFewerLines();
    }

    private static void fewerPagesAheadOfFewerLines() {
        // Only bar 2 may end a line or not. If it does not, there are five lines, with free
        // turns on three pages alone; if it does, there are six, on two pages.
        BreakLines x = Check.piece(100, 3, 6, 50, 50);
        for (int kind = 0; kind < 5; kind++) {
            x.cost(kind, kind == TURN ? 1000 : 0);
        }
        for (int bar : new int[] {0, 1, 3, 4}) {
            x.mark(bar, FORCED, true);
        }
        x.mark(0, REST, true);
        x.mark(4, REST, true);
        Check.dueLinesOnPages("five lines", x, 1, 3, 1);
        x.mark(2, REST, true);
        Check.dueLinesOnPages("fewest pages come first", x, 3, 3);
        Check.due("both are free", x.sum(), 0);
    }

    private static void line() {
        BreakLines x = new BreakLines(100, 1);
        x.bar(30, 30);
        x.bar(30, 40);
        x.bar(150, 200);
        x.bar(90, 120);
        x.mark(1, FORCED, true);
        Check.due("line(0, 0)", x.line(0, 0), 0);
        Check.due("line(0, 1)", x.line(0, 1), 1);
        Check.due("line(0, 2)", x.line(0, 2), 0);
        Check.due("line(0, 3)", x.line(0, 3), 1000030);
        Check.due("line(1, 0)", x.line(1, 0), 2);
        Check.due("line(1, 1)", x.line(1, 1), 2);
        Check.due("line(1, 2)", x.line(1, 2), 1);
        Check.due("line(1, 3) OVER", x.line(1, 3), 999900);
        Check.due("line(2, 0)", x.line(2, 0), 3);
        Check.due("line(2, 2)", x.line(2, 2), 2);
        Check.due("line(2, 3) squeezed", x.line(2, 3), 999980);
        Check.due("line(-1, 0)", x.line(-1, 0), -1);
        Check.due("line(3, 0)", x.line(3, 0), -1);
        Check.due("line(3, 4)", x.line(3, 4), -1);
        Check.due("line(0, 4)", x.line(0, 4), -2);
        Check.due("line(0, -1)", x.line(0, -1), -2);
        Check.due("line(MIN, MIN)", x.line(Integer.MIN_VALUE, Integer.MIN_VALUE), -1);
        Check.due("line(MAX, 0)", x.line(Integer.MAX_VALUE, 0), -1);
    }

    private static void page() {
        BreakLines x = Check.piece(100, 2, 5, 100, 100);
        x.mark(1, REST, true);
        x.cost(WIDOW, 5000);
        Check.dueLinesOnPages("turns", x, 2, 1, 2);
        Check.due("page(0, 2) a REST", x.page(0, 2), 0);
        Check.due("page(1, 2) no REST", x.page(1, 2), 1000);
        Check.due("page(2, 2) two lines", x.page(2, 2), 0);
        Check.due("page(-1, 0)", x.page(-1, 0), -1);
        Check.due("page(3, 0)", x.page(3, 0), -1);
        Check.due("page(3, 3)", x.page(3, 3), -1);
        Check.due("page(0, 3)", x.page(0, 3), -2);
        Check.due("page(0, -1)", x.page(0, -1), -2);
        Check.due("page(MAX, MIN)", x.page(Integer.MAX_VALUE, Integer.MIN_VALUE), -1);
        x.size(1, 1);
        Check.due("page(4, 2) a widow", x.page(4, 2), 5000);
        x.mark(4, REST, true);
        Check.due("page(4, 2) a widow with a REST", x.page(4, 2), 5000);
        BreakLines one = Check.piece(100, 2, 1, 10, 10);
        Check.due("the only page has no widow", one.page(0, 2), 0);
        Check.due("nor does it cost", one.sum(), 0);
    }

    private static void set() {
        BreakLines x = new BreakLines(101, 2);
        x.bar(10, 20);
        x.bar(10, 30);
        x.bar(10, 10);
        // d is 41 of 60: shares 13, 34, 41.
        Check.dueSetWidths("stretched", x, 33, 51, 17);
        Check.due("set(0, 2)", x.set(0, 2), 0);
        Check.due("set(1, 2)", x.set(1, 2), 33);
        Check.due("set(2, 2)", x.set(2, 2), 84);
        x.change(2, 40, 60);
        x.count(1);
        // d is -9 of 10, 20 and 20 that give way: shares 1, 5, 9.
        Check.dueSetWidths("squeezed", x, 19, 26, 56);
        Check.due("set(2, 2) squeezed", x.set(2, 2), 45);
        x.change(2, 51, 51);
        Check.dueSetWidths("d is 0", x, 20, 30, 51);
        x.change(2, 81, 81);
        Check.dueSetWidths("squeezed to the least", x, 10, 10, 81);
        x.count(0);
        x.mark(1, FORCED, true);
        x.change(2, 102, 400);
        Check.dueSetWidths("OVER", x, 40, 61, 102);
        Check.due("set(2, 2) OVER", x.set(2, 2), 0);
        x.change(2, 101, 400);
        Check.dueSetWidths("one bar, not OVER", x, 40, 61, 101);
        Check.due("set(0, 0)", x.set(0, 0), 0);
        Check.due("set(1, 0)", x.set(1, 0), 0);
        Check.due("set(2, 0)", x.set(2, 0), 1);
        Check.due("set(-1, 0)", x.set(-1, 0), -1);
        Check.due("set(3, 0)", x.set(3, 0), -1);
        Check.due("set(3, 3)", x.set(3, 3), -1);
        Check.due("set(0, 3)", x.set(0, 3), -2);
        Check.due("set(0, -1)", x.set(0, -1), -2);
        Check.due("set(MIN, 0)", x.set(Integer.MIN_VALUE, 0), -1);
        Check.due("set(MAX, 0)", x.set(Integer.MAX_VALUE, 0), -1);
    }

    private static void ends() {
        BreakLines x = Check.piece(100, 2, 5, 50, 50);
        boolean[] want = {false, true, false, true, true};
        for (int bar = 0; bar < 5; bar++) {
            Check.due("ends(" + bar + ")", x.ends(bar), want[bar]);
        }
        Check.due("ends(-1)", x.ends(-1), false);
        Check.due("ends(5)", x.ends(5), false);
        Check.due("ends(MIN)", x.ends(Integer.MIN_VALUE), false);
        Check.due("ends(MAX)", x.ends(Integer.MAX_VALUE), false);
        x.mark(0, FORCED, true);
        Check.due("ends(0) FORCED", x.ends(0), true);
        x.count(1);
        Check.due("ends(0), no SETTING", x.ends(0), false);
    }

    private static void badness() {
        BreakLines x = Check.piece(100, 2, 4, 30, 40);
        Check.due("badness(0, 0)", x.badness(0, 0), 3600);
        Check.due("badness(0, 1)", x.badness(0, 1), 400);
        Check.due("badness(0, 2)", x.badness(0, 2), 1600);
        Check.due("badness(0, 3) too wide", x.badness(0, 3), -1);
        Check.due("badness(1, 3) last, squeezed", x.badness(1, 3), 1600);
        Check.due("badness(2, 3) last", x.badness(2, 3), 0);
        Check.due("badness(1, 0)", x.badness(1, 0), -1);
        Check.due("badness(-1, 0)", x.badness(-1, 0), -1);
        Check.due("badness(0, 4)", x.badness(0, 4), -1);
        Check.due("badness(4, 4)", x.badness(4, 4), -1);
        Check.due("badness(MIN, MAX)", x.badness(Integer.MIN_VALUE, Integer.MAX_VALUE), -1);
        x.change(2, 40, 40);
        Check.due("badness(0, 2) just as wide", x.badness(0, 2), 1600);
        x.change(2, 41, 41);
        Check.due("badness(0, 2) too wide by 1", x.badness(0, 2), -1);
        x.mark(1, BARRED, true);
        Check.due("badness(0, 1) BARRED", x.badness(0, 1), -1);
        x.mark(1, FORCED, true);
        Check.due("badness(0, 1) FORCED too", x.badness(0, 1), 400);
        Check.due("badness(1, 2) over a FORCED one", x.badness(1, 2), -1);
        x.mark(3, BARRED, true);
        Check.due("badness(2, 3) the last one BARRED", x.badness(2, 3), 0);
        x.change(3, 101, 102);
        Check.due("badness(3, 3) OVER, last", x.badness(3, 3), 100000);
        x.change(3, 100, 102);
        Check.due("badness(3, 3) squeezed, last", x.badness(3, 3), 16);
        x.change(0, 400, 400);
        Check.due("badness(0, 0) OVER", x.badness(0, 0), 100000);
        x.count(9);
        Check.due("badness(2, 2), no SETTING", x.badness(2, 2), 59 * 59);
    }

    private static void would() {
        BreakLines x = Check.piece(100, 2, 3, 30, 40);
        Check.due("sum()", x.sum(), 400);
        Check.due("would(0, FORCED)", x.would(0, FORCED), 3600);
        Check.due("would(1, BARRED)", x.would(1, BARRED), 1600);
        Check.due("would(1, REST)", x.would(1, REST), 400);
        Check.due("it changes no sum", x.sum(), 400);
        Check.due("it changes no mark", x.mark(0, FORCED, false) + x.mark(1, BARRED, false), 0);
        Check.dueLastBars("nor lines", x, 1, 2);
        Check.due("would(-1, 0)", x.would(-1, 0), -1);
        Check.due("would(3, 0)", x.would(3, 0), -1);
        Check.due("would(0, 3)", x.would(0, 3), -1);
        Check.due("would(0, -1)", x.would(0, -1), -1);
        Check.due("would(MAX, MAX)", x.would(Integer.MAX_VALUE, Integer.MAX_VALUE), -1);
        x.mark(1, FORCED, true);
        Check.due("would() of a mark that is on", x.would(1, FORCED), 400);
        Check.due("it stays on", x.mark(1, FORCED, true), 1);
        x.mark(1, FORCED, false);
        x.count(1);
        Check.due("would(0, FORCED), COUNT 1", x.would(0, FORCED), -1);
        Check.due("would(2, FORCED), COUNT 1", x.would(2, FORCED), 1600);
        x.count(0);
        x.mark(0, BARRED, true);
        x.mark(1, BARRED, true);
        x.change(2, 60, 60);
        Check.due("no SETTING", x.sum(), -1);
        Check.due("would(1, FORCED) makes one", x.would(1, FORCED), 400);
        Check.due("would(1, BARRED) makes none", x.would(1, BARRED), -1);
        Check.due("still no SETTING", x.lines(), -3);
        x.size(1, 1);
        x.mark(1, BARRED, false);
        Check.due("a turn and a widow", x.sum(), 1900);
        Check.due("would(1, REST)", x.would(1, REST), 900);
        Check.due("would(2, REST)", x.would(2, REST), 1900);
    }

    public static void main(String[] args) {
        Check.sentence("Promise 1: A new object", PromisesTest::newObject);
        Check.sentence("Promise 2: bar", PromisesTest::bar);
        Check.sentence("Promise 3: change", PromisesTest::change);
        Check.sentence("Promise 4: mark", PromisesTest::mark);
        Check.sentence("Promise 5: cost", PromisesTest::cost);
        Check.sentence("Promise 6: count", PromisesTest::count);
        Check.sentence("Promise 7: size", PromisesTest::size);
        Check.sentence("Promise 8: bars", PromisesTest::bars);
        Check.sentence("Promises 9 to 11: lines, pages, sum", PromisesTest::linesAndPages);
        Check.sentence("Promises 9 to 11, without bars", PromisesTest::withoutBars);
        Check.sentence("Promises 9 to 11, the same SUM", PromisesTest::equalSums);
        Check.sentence("Promise 12: line", PromisesTest::line);
        Check.sentence("Promise 13: page", PromisesTest::page);
        Check.sentence("Promise 14: set", PromisesTest::set);
        Check.sentence("Promise 15: ends", PromisesTest::ends);
        Check.sentence("Promise 16: badness", PromisesTest::badness);
        Check.sentence("Promise 17: would", PromisesTest::would);
        Check.end();
    }
}
