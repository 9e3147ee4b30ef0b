/** Holds answers against those that are due, and tells the words that ask for them. */
final class Check {
    static final int SQUEEZE = 0;
    static final int TURN = 1;
    static final int WIDOW = 2;
    static final int OVER = 3;
    static final int STRETCH = 4;
    static final int COSTS = 5;
    static final int FORCED = 0;
    static final int BARRED = 1;
    static final int REST = 2;
    static final int MARKS = 3;
    static final int MIN = Integer.MIN_VALUE;
    static final int MAX = Integer.MAX_VALUE;

    private static String asking = "";
    private static int asked = 0;
    private static int answers = 0;
    private static int wrong = 0;

    private Check() {
    }

    /** Runs the test of a sentence; a call that throws is as wrong as a false answer. */
    static void sentence(String words, Runnable test) {
        asking = words;
        asked++;
        int before = answers;
        try {
            test.run();
        } catch (RuntimeException | Error thrown) {
            fault("threw " + thrown);
        }
        if (answers == before) {
            fault("no answer was looked at");
        }
    }

    static void due(String call, long got, long want) {
        answers++;
        if (got != want) {
            fault(call + " answered " + got + ", due is " + want);
        }
    }

    static void due(String call, boolean got, boolean want) {
        due(call, got ? 1L : 0L, want ? 1L : 0L);
    }

    static void fault(String what) {
        wrong++;
        System.out.println("\"" + asking + "\": " + what);
    }

    /** Ends the test, with exit code 1 if something was wrong. */
    static void end() {
        System.out.println(asked + " sentences, " + answers + " answers, " + wrong + " faults");
        if (wrong != 0 || asked == 0) {
            System.exit(1);
        }
    }

    /** A piece of equal bars. */
    static BreakLines piece(int width, int perPage, int bars, int least, int wished) {
        BreakLines x = new BreakLines(width, perPage);
        for (int bar = 0; bar < bars; bar++) {
            x.bar(least, wished);
        }
        return x;
    }

    /** A piece of bars that are no narrower than wished. */
    static BreakLines stiff(int width, int perPage, int... widths) {
        BreakLines x = new BreakLines(width, perPage);
        for (int w : widths) {
            x.bar(w, w);
        }
        return x;
    }

    static void markAll(BreakLines x, int mark, int... bars) {
        for (int bar : bars) {
            x.mark(bar, mark, true);
        }
    }

    /** Every line is FORCED to have one bar. */
    static BreakLines lineForEachBar(BreakLines x) {
        for (int bar = 0; bar < x.bars(); bar++) {
            x.mark(bar, FORCED, true);
        }
        return x;
    }

    static void allCosts(BreakLines x, int v) {
        for (int kind = 0; kind < COSTS; kind++) {
            x.cost(kind, v);
        }
    }

    static void dueLastBars(String what, BreakLines x, int... want) {
        due(what + ": lines()", x.lines(), want.length);
        int first = 0;
        for (int k = 0; k < want.length; k++) {
            due(what + ": line(" + k + ", 0)", x.line(k, 0), first);
            due(what + ": line(" + k + ", 1)", x.line(k, 1), want[k]);
            first = want[k] + 1;
        }
    }

    static void dueLinesOnPages(String what, BreakLines x, int... want) {
        due(what + ": pages()", x.pages(), want.length);
        int first = 0;
        for (int k = 0; k < want.length; k++) {
            due(what + ": page(" + k + ", 0)", x.page(k, 0), first);
            due(what + ": page(" + k + ", 1)", x.page(k, 1), want[k]);
            first += want[k];
        }
    }

    static void dueSetWidths(String what, BreakLines x, int... want) {
        for (int bar = 0; bar < want.length; bar++) {
            due(what + ": set(" + bar + ", 1)", x.set(bar, 1), want[bar]);
        }
    }
}
