import java.util.ArrayList;
import java.util.List;
import java.util.function.Supplier;
import java.util.function.ToLongFunction;

/**
 * Each refusal of the document: that it is the first one in the document's order, and that it
 * changes nothing. Two objects are made alike, one is refused, and then both are asked for all
 * that an object tells.
 */
public final class RefusalsTest {
    private static final int MIN = Check.MIN;
    private static final int MAX = Check.MAX;
    private static final long NOTHING = BreakLines.NOTHING;
    private static final int[][] NO_WIDTHS = {{0, 1}, {0, 0}, {1, 0}, {-1, 1}, {1, -1}, {2, 1},
        {400, 399}, {401, 400}, {1, 401}, {401, 401}, {MIN, 1}, {1, MIN}, {1, MAX}, {MAX, MAX},
        {MIN, MAX}, {MAX, MIN}};
    private static final int[] NO_MARKS = {-1, 3, MIN, MAX};
    private static final List<State> STATES = List.of(
            new State("no bars", RefusalsTest::noBars, true),
            new State("no bars, a COUNT", () -> counted(noBars(), 1), false),
            new State("four bars", RefusalsTest::fourBars, true),
            new State("four bars, five lines", () -> counted(fourBars(), 5), false),
            new State("four bars, all BARRED", RefusalsTest::allBarred, false),
            new State("24 bars", RefusalsTest::fullPiece, true),
            new State("24 bars, one line", () -> counted(fullPiece(), 1), false));

    private RefusalsTest() {
    }

    /** A way to make objects that are alike, so that a refusal can be told by its traces. */
    private record State(String name, Supplier<BreakLines> maker, boolean hasSetting) {
        BreakLines make() {
            return maker.get();
        }

        int bars() {
            return make().bars();
        }

        int lines() {
            return make().lines();
        }

        int pages() {
            return make().pages();
        }

        boolean isFull() {
            return bars() == 24;
        }

        /** Numbers of which none is below n. */
        static int[] noneBelow(int n) {
            return new int[] {-1, n, n + 1, n + 31, MIN, MAX};
        }
    }

    private static BreakLines noBars() {
        return new BreakLines(150, 2);
    }

    private static BreakLines fourBars() {
        BreakLines x = new BreakLines(150, 1);
        x.bar(60, 90);
        x.bar(50, 80);
        x.bar(70, 70);
        x.bar(160, 170);
        x.mark(0, Check.BARRED, true);
        x.mark(1, Check.REST, true);
        x.mark(2, Check.FORCED, true);
        x.cost(Check.SQUEEZE, 3);
        return x;
    }

    private static BreakLines allBarred() {
        BreakLines x = fourBars();
        x.mark(2, Check.FORCED, false);
        Check.markAll(x, Check.BARRED, 1, 2, 3);
        return x;
    }

    private static BreakLines fullPiece() {
        BreakLines x = new BreakLines(150, 3);
        for (int bar = 0; bar < 24; bar++) {
            x.bar(20 + bar % 5, 35 + bar % 7);
        }
        Check.markAll(x, Check.REST, 5, 13);
        x.mark(10, Check.FORCED, true);
        x.mark(17, Check.BARRED, true);
        return x;
    }

    private static BreakLines counted(BreakLines x, int n) {
        x.count(n);
        return x;
    }

    /** All that an object tells, at the end by what its parts were when they are changed. */
    private static List<Long> all(BreakLines x) {
        List<Long> told = new ArrayList<>();
        int bars = x.bars();
        told.add((long) bars);
        tellSetting(x, bars, told);
        for (int bar = 0; bar < bars; bar++) {
            told.add(x.badness(bar, bar));
            told.add(x.badness(bar, bar + 1));
            told.add(x.badness(Math.max(0, bar - 2), bar));
            for (int mark = 0; mark < 3; mark++) {
                told.add(x.would(bar, mark));
            }
        }
        told.add((long) x.count(0));
        told.add(x.sum());
        for (int bar = 0; bar < bars; bar++) {
            for (int mark = 0; mark < 3; mark++) {
                told.add((long) x.mark(bar, mark, false));
            }
        }
        for (int kind = 0; kind < 5; kind++) {
            told.add((long) x.cost(kind, 0));
        }
        told.add((long) x.size(0, 100));
        told.add((long) x.size(1, 1));
        return told;
    }

    private static void tellSetting(BreakLines x, int bars, List<Long> told) {
        int lines = x.lines();
        int pages = x.pages();
        told.add((long) lines);
        told.add((long) pages);
        told.add(x.sum());
        for (int k = 0; k < lines; k++) {
            told.add((long) x.line(k, 1));
            told.add((long) x.line(k, 3));
        }
        for (int k = 0; k < pages; k++) {
            told.add((long) x.page(k, 1));
            told.add((long) x.page(k, 2));
        }
        for (int bar = 0; bar < bars; bar++) {
            told.add((long) x.set(bar, 1));
            told.add(x.ends(bar) ? 1L : 0L);
        }
    }

    /** The call answers so, whether the best setting was asked for before or not, and changes nothing. */
    private static void leavesAll(State state, String text, ToLongFunction<BreakLines> call, long want) {
        for (boolean askedBefore : new boolean[] {false, true}) {
            BreakLines x = state.make();
            BreakLines alike = state.make();
            if (askedBefore) {
                x.sum();
                alike.sum();
            }
            String where = state.name() + (askedBefore ? ", asked before: " : ": ") + text;
            Check.due(where, call.applyAsLong(x), want);
            Check.due(where + " changed nothing", all(x).equals(all(alike)), true);
        }
    }

    // ---- what is said

    private static void bar() {
        for (State s : STATES) {
            for (int[] w : NO_WIDTHS) {
                leavesAll(s, "bar(" + w[0] + ", " + w[1] + ")", x -> x.bar(w[0], w[1]), -2);
            }
            if (s.isFull()) {
                leavesAll(s, "bar(1, 1)", x -> x.bar(1, 1), -4);
                leavesAll(s, "bar(400, 400)", x -> x.bar(400, 400), -4);
            }
        }
    }

    private static void change() {
        for (State s : STATES) {
            for (int bar : State.noneBelow(s.bars())) {
                leavesAll(s, "change(" + bar + ", 1, 1)", x -> x.change(bar, 1, 1), -1);
                leavesAll(s, "change(" + bar + ", 0, 0)", x -> x.change(bar, 0, 0), -1);
                leavesAll(s, "change(" + bar + ", 2, 1)", x -> x.change(bar, 2, 1), -1);
            }
            for (int bar = 0; bar < s.bars(); bar += Math.max(1, s.bars() - 1)) {
                int there = bar;
                for (int[] w : NO_WIDTHS) {
                    leavesAll(s, "change(" + bar + ", " + w[0] + ", " + w[1] + ")",
                            x -> x.change(there, w[0], w[1]), -2);
                }
            }
        }
    }

    private static void mark() {
        for (State s : STATES) {
            for (boolean on : new boolean[] {true, false}) {
                for (int bar : State.noneBelow(s.bars())) {
                    leavesAll(s, "mark(" + bar + ", 0, " + on + ")", x -> x.mark(bar, 0, on), -1);
                    leavesAll(s, "mark(" + bar + ", 2, " + on + ")", x -> x.mark(bar, 2, on), -1);
                    leavesAll(s, "mark(" + bar + ", 3, " + on + ")", x -> x.mark(bar, 3, on), -1);
                }
                for (int bar = 0; bar < s.bars(); bar += Math.max(1, s.bars() - 1)) {
                    int there = bar;
                    for (int mark : NO_MARKS) {
                        leavesAll(s, "mark(" + bar + ", " + mark + ", " + on + ")",
                                x -> x.mark(there, mark, on), -2);
                    }
                }
            }
        }
    }

    private static void cost() {
        for (State s : STATES) {
            for (int v : new int[] {-1, 1000001, MIN, MAX}) {
                for (int kind = -1; kind <= 5; kind++) {
                    int k = kind;
                    leavesAll(s, "cost(" + kind + ", " + v + ")", x -> x.cost(k, v), -2);
                }
            }
            for (int kind : new int[] {-1, 5, MIN, MAX}) {
                leavesAll(s, "cost(" + kind + ", 0)", x -> x.cost(kind, 0), -2);
                leavesAll(s, "cost(" + kind + ", 1000000)", x -> x.cost(kind, 1000000), -2);
            }
        }
    }

    private static void count() {
        for (State s : STATES) {
            for (int n : new int[] {-1, 25, MIN, MAX}) {
                leavesAll(s, "count(" + n + ")", x -> x.count(n), -2);
            }
        }
    }

    private static void size() {
        int[][] outside = {{0, 99}, {0, 5001}, {0, 1}, {0, 8}, {0, 0}, {0, -1}, {0, MIN}, {0, MAX},
            {1, 0}, {1, 9}, {1, 100}, {1, 5000}, {1, -1}, {1, MIN}, {1, MAX},
            {-1, 8}, {-1, 100}, {2, 1}, {2, 5000}, {MIN, 8}, {MAX, 100}};
        for (State s : STATES) {
            for (int[] row : outside) {
                leavesAll(s, "size(" + row[0] + ", " + row[1] + ")", x -> x.size(row[0], row[1]), -2);
            }
        }
    }

    // ---- the best setting

    private static void withNoSetting(String text, ToLongFunction<BreakLines> call, long want) {
        for (State s : STATES) {
            if (!s.hasSetting()) {
                leavesAll(s, text, call, want);
            }
        }
    }

    private static void lines() {
        withNoSetting("lines()", BreakLines::lines, -3);
    }

    private static void pages() {
        withNoSetting("pages()", BreakLines::pages, -3);
    }

    private static void sum() {
        withNoSetting("sum()", BreakLines::sum, NOTHING);
    }

    private static void line() {
        for (State s : STATES) {
            int lines = Math.max(0, s.lines());
            for (int k : State.noneBelow(lines)) {
                for (int what : new int[] {0, 3, 4, -1}) {
                    leavesAll(s, "line(" + k + ", " + what + ")", x -> x.line(k, what),
                            s.hasSetting() ? -1 : -3);
                }
            }
            for (int what : new int[] {-1, 4, MIN, MAX}) {
                leavesAll(s, "line(0, " + what + ")", x -> x.line(0, what),
                        !s.hasSetting() ? -3 : lines == 0 ? -1 : -2);
                leavesAll(s, "line(" + (lines - 1) + ", " + what + ")", x -> x.line(lines - 1, what),
                        !s.hasSetting() ? -3 : lines == 0 ? -1 : -2);
            }
        }
    }

    private static void page() {
        for (State s : STATES) {
            int pages = Math.max(0, s.pages());
            for (int k : State.noneBelow(pages)) {
                for (int what : new int[] {0, 2, 3, -1}) {
                    leavesAll(s, "page(" + k + ", " + what + ")", x -> x.page(k, what),
                            s.hasSetting() ? -1 : -3);
                }
            }
            for (int what : new int[] {-1, 3, MIN, MAX}) {
                leavesAll(s, "page(0, " + what + ")", x -> x.page(0, what),
                        !s.hasSetting() ? -3 : pages == 0 ? -1 : -2);
                leavesAll(s, "page(" + (pages - 1) + ", " + what + ")", x -> x.page(pages - 1, what),
                        !s.hasSetting() ? -3 : pages == 0 ? -1 : -2);
            }
        }
    }

    private static void set() {
        for (State s : STATES) {
            for (int bar : State.noneBelow(s.bars())) {
                for (int what : new int[] {0, 2, 3, -1}) {
                    leavesAll(s, "set(" + bar + ", " + what + ")", x -> x.set(bar, what), -1);
                }
            }
            for (int bar = 0; bar < s.bars(); bar += Math.max(1, s.bars() - 1)) {
                int there = bar;
                for (int what : new int[] {-1, 3, MIN, MAX}) {
                    leavesAll(s, "set(" + bar + ", " + what + ")", x -> x.set(there, what), -2);
                }
                for (int what = 0; what < 3 && !s.hasSetting(); what++) {
                    int w = what;
                    leavesAll(s, "set(" + bar + ", " + what + ")", x -> x.set(there, w), -3);
                }
            }
        }
    }

    private static void ends() {
        for (State s : STATES) {
            for (int bar : State.noneBelow(s.bars())) {
                leavesAll(s, "ends(" + bar + ")", x -> x.ends(bar) ? 1 : 0, 0);
            }
            for (int bar = 0; bar < s.bars() && !s.hasSetting(); bar++) {
                int there = bar;
                leavesAll(s, "ends(" + bar + ")", x -> x.ends(there) ? 1 : 0, 0);
            }
        }
    }

    // ---- asked

    private static void badness() {
        for (State s : STATES) {
            int bars = s.bars();
            for (int none : State.noneBelow(bars)) {
                leavesAll(s, "badness(0, " + none + ")", x -> x.badness(0, none), NOTHING);
                leavesAll(s, "badness(" + none + ", 0)", x -> x.badness(none, 0), NOTHING);
                leavesAll(s, "badness(" + none + ", " + none + ")", x -> x.badness(none, none), NOTHING);
                leavesAll(s, "badness(" + (bars - 1) + ", " + none + ")",
                        x -> x.badness(bars - 1, none), NOTHING);
            }
            leavesAll(s, "badness(1, 0)", x -> x.badness(1, 0), NOTHING);
            leavesAll(s, "badness(to is before from)", x -> x.badness(bars - 1, bars - 2), NOTHING);
            leavesAll(s, "badness(MIN, MAX)", x -> x.badness(MIN, MAX), NOTHING);
            leavesAll(s, "badness(MAX, MIN)", x -> x.badness(MAX, MIN), NOTHING);
            leavesAll(s, "badness() of a line that MAY not BE", x -> x.badness(0, bars - 1), NOTHING);
        }
    }

    private static void would() {
        for (State s : STATES) {
            for (int bar : State.noneBelow(s.bars())) {
                for (int mark : new int[] {0, 2, 3}) {
                    leavesAll(s, "would(" + bar + ", " + mark + ")", x -> x.would(bar, mark), NOTHING);
                }
            }
            for (int bar = 0; bar < s.bars(); bar += Math.max(1, s.bars() - 1)) {
                int there = bar;
                for (int mark : NO_MARKS) {
                    leavesAll(s, "would(" + bar + ", " + mark + ")", x -> x.would(there, mark), NOTHING);
                }
            }
        }
    }

    private static void wouldWithNoSettingThen() {
        State counted = STATES.get(3);
        for (int bar = 0; bar < 4; bar++) {
            for (int mark = 0; mark < 3; mark++) {
                int b = bar;
                int m = mark;
                leavesAll(counted, "would(" + b + ", " + m + ")", x -> x.would(b, m), NOTHING);
            }
        }
        State two = new State("two bars", () -> Check.stiff(150, 1, 100, 100), true);
        leavesAll(two, "would(0, BARRED)", x -> x.would(0, Check.BARRED), NOTHING);
        State one = new State("two bars in one line", () -> counted(Check.stiff(150, 1, 60, 60), 1), true);
        leavesAll(one, "would(0, FORCED)", x -> x.would(0, Check.FORCED), NOTHING);
    }

    /** What is answered without a refusal leaves all as it was too. */
    private static void questions() {
        for (State s : STATES) {
            for (int bar = 0; bar < s.bars(); bar++) {
                int b = bar;
                for (int mark = 0; mark < 3; mark++) {
                    int m = mark;
                    long want = s.make().would(b, m);
                    leavesAll(s, "would(" + b + ", " + m + ")", x -> x.would(b, m), want);
                }
                leavesAll(s, "badness(" + b + ")", x -> x.badness(b, b), s.make().badness(b, b));
                leavesAll(s, "set(" + b + ", 1)", x -> x.set(b, 1), s.make().set(b, 1));
            }
            leavesAll(s, "line(0, 1)", x -> x.line(0, 1), s.make().line(0, 1));
            leavesAll(s, "page(0, 1)", x -> x.page(0, 1), s.make().page(0, 1));
            leavesAll(s, "bars()", BreakLines::bars, s.bars());
        }
    }

    /** The states are what their names say, so that the refusals are tried where they should be. */
    private static void states() {
        int[] bars = {0, 0, 4, 4, 4, 24, 24};
        for (int k = 0; k < STATES.size(); k++) {
            State s = STATES.get(k);
            Check.due(s.name() + ": bars()", s.bars(), bars[k]);
            Check.due(s.name() + ": has a SETTING", s.make().sum() != NOTHING, s.hasSetting());
        }
    }

    public static void main(String[] args) {
        Check.sentence("REFUSALS, in states with and without a SETTING", RefusalsTest::states);
        Check.sentence("bar: -2, -4", RefusalsTest::bar);
        Check.sentence("change: -1, -2", RefusalsTest::change);
        Check.sentence("mark: -1, -2 no such MARK", RefusalsTest::mark);
        Check.sentence("cost: -2", RefusalsTest::cost);
        Check.sentence("count: -2", RefusalsTest::count);
        Check.sentence("size: -2", RefusalsTest::size);
        Check.sentence("lines: -3", RefusalsTest::lines);
        Check.sentence("pages: -3", RefusalsTest::pages);
        Check.sentence("sum: NOTHING", RefusalsTest::sum);
        Check.sentence("line: -3 there is no SETTING, -1, -2 another what (in this order)", RefusalsTest::line);
        Check.sentence("page: -3, -1, -2 as for line()", RefusalsTest::page);
        Check.sentence("set: -1, -2, -3", RefusalsTest::set);
        Check.sentence("ends: false: there is no such bar, no SETTING", RefusalsTest::ends);
        Check.sentence("badness: NOTHING: no such bars, to is before from, or it MAY not BE", RefusalsTest::badness);
        Check.sentence("would: NOTHING: there is no such bar, MARK", RefusalsTest::would);
        Check.sentence("would: or no SETTING then", RefusalsTest::wouldWithNoSettingThen);
        Check.sentence("would: if a bar had a MARK more", RefusalsTest::questions);
        Check.end();
    }
}
