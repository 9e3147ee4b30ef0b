/**
 * Runs of as many calls as an object is used for, each answer held against a plain model of the
 * document. The model finds the best setting one thing after the other, in the document's words;
 * where a piece has few settings, as it is short or most of its bars are marked, it writes them
 * all out too, and both ways must meet.
 */
public final class ReferenceTest {
    private static final int SHORT_PIECE = 7;
    private static final int RUNS = 1200;
    private static final int CALLS = 512;

    private static int wrong = 0;
    private static int comparedLong = 0;
    private static int parted = 0;

    private ReferenceTest() {
    }

    /** A row of numbers that is the same each time. */
    private static final class Dice {
        private long state;

        Dice(long seed) {
            state = seed * 0x9E3779B97F4A7C15L + 1;
        }

        int below(int n) {
            state ^= state << 13;
            state ^= state >>> 7;
            state ^= state << 17;
            return (int) Math.floorMod(state >>> 11, (long) n);
        }

        int between(int low, int high) {
            return low + below(high - low + 1);
        }

        boolean oneIn(int n) {
            return below(n) == 0;
        }

        /** Mostly within, at times just outside, rarely far out. */
        int near(int low, int high) {
            if (oneIn(60)) {
                return below(2) == 0 ? Integer.MIN_VALUE : Integer.MAX_VALUE;
            }
            return oneIn(12) ? (below(2) == 0 ? low - 1 : high + 1) : between(low, high);
        }
    }

    /** One run: an object, its model, and a manner of widths and costs. */
    private static final class Run {
        final int number;
        final Dice dice;
        final BreakLines x;
        final Model model;
        final int most;
        final boolean alike;
        final boolean marked;
        int calls = 0;

        Run(int number) {
            this.number = number;
            dice = new Dice(number + 1);
            marked = number % 4 == 0;
            int usual = marked ? dice.between(300, 1500) : dice.between(100, 600);
            int width = dice.oneIn(4) ? dice.near(100, 5000) : usual;
            int perPage = dice.near(1, 8);
            x = new BreakLines(width, perPage);
            model = new Model(width, perPage);
            most = marked || dice.oneIn(3) ? 26 : SHORT_PIECE;
            alike = dice.below(2) == 0;
        }

        void due(String call, long got, long want) {
            calls++;
            if (got != want && wrong++ < 50) {
                System.out.println("run " + number + ": " + call + " answered " + got + ", due is " + want);
            }
        }

        int wished() {
            return alike ? 50 * dice.between(1, 3) : dice.near(1, 400);
        }

        int least(int wished) {
            if (dice.oneIn(20)) {
                return dice.near(1, 400);
            }
            int kept = Math.max(1, Math.min(400, wished));
            return alike ? Math.max(1, kept - 20 * dice.below(2)) : dice.between(1, kept);
        }

        int someBar() {
            return dice.near(0, Math.max(0, model.bars() - 1));
        }

        void say() {
            switch (dice.below(10)) {
                case 0:
                case 1:
                    addBar();
                    break;
                case 2:
                case 3:
                    changeBar();
                    break;
                case 4:
                case 5:
                case 6:
                    int mark = dice.near(0, 2);
                    putMark(someBar(), mark, isOn(mark));
                    break;
                case 7:
                    int kind = dice.near(0, 4);
                    int v = alike ? Math.max(0, dice.below(6) - 3) * 500 : dice.near(0, 1000000);
                    due("cost(" + kind + ", " + v + ")", x.cost(kind, v), model.cost(kind, v));
                    break;
                case 8:
                    int n = dice.below(2) == 0 ? 0 : dice.near(0, Math.min(24, model.bars() + 1));
                    due("count(" + n + ")", x.count(n), model.count(n));
                    break;
                default:
                    int what = dice.near(0, 1);
                    int wide = alike ? 50 * dice.between(2, marked ? 30 : 12) : dice.near(100, 5000);
                    int size = what == 1 ? dice.near(1, 8) : wide;
                    due("size(" + what + ", " + size + ")", x.size(what, size), model.size(what, size));
                    break;
            }
        }

        void addBar() {
            if (model.bars() < most || dice.oneIn(9) && most > 24) {
                int wished = wished();
                int least = least(wished);
                due("bar(" + least + ", " + wished + ")", x.bar(least, wished), model.bar(least, wished));
            }
        }

        void putMark(int bar, int mark, boolean on) {
            due("mark(" + bar + ", " + mark + ", " + on + ")", x.mark(bar, mark, on), model.mark(bar, mark, on));
        }

        /** In a piece that is to have few settings, most bars are BARRED and some are FORCED. */
        boolean isOn(int mark) {
            if (!marked || mark == 2) {
                return dice.below(2) == 0;
            }
            return mark == 1 ? !dice.oneIn(8) : dice.oneIn(4);
        }

        void markMost() {
            for (int bar = 0; bar < model.bars(); bar++) {
                if (!dice.oneIn(6)) {
                    putMark(bar, dice.oneIn(4) ? 0 : 1, true);
                }
            }
        }

        void changeBar() {
            int bar = someBar();
            int wished = wished();
            int least = least(wished);
            due("change(" + bar + ", " + least + ", " + wished + ")",
                    x.change(bar, least, wished), model.change(bar, least, wished));
        }

        void ask() {
            int lines = model.lines();
            int pages = model.pages();
            int bar = someBar();
            int other = someBar();
            int what = dice.near(0, 3);
            switch (dice.below(10)) {
                case 0:
                    due("bars()", x.bars(), model.bars());
                    break;
                case 1:
                    due("sum()", x.sum(), model.sum());
                    break;
                case 8:
                    due("lines()", x.lines(), lines);
                    break;
                case 9:
                    due("pages()", x.pages(), pages);
                    break;
                case 2:
                    int k = dice.near(0, Math.max(0, lines - 1));
                    due("line(" + k + ", " + what + ")", x.line(k, what), model.line(k, what));
                    break;
                case 3:
                    int p = dice.near(0, Math.max(0, pages - 1));
                    due("page(" + p + ", " + what + ")", x.page(p, what), model.page(p, what));
                    break;
                case 4:
                    due("set(" + bar + ", " + what + ")", x.set(bar, what), model.set(bar, what));
                    break;
                case 5:
                    due("ends(" + bar + ")", x.ends(bar) ? 1 : 0, model.ends(bar) ? 1 : 0);
                    break;
                case 6:
                    due("badness(" + bar + ", " + other + ")", x.badness(bar, other), model.badness(bar, other));
                    break;
                default:
                    due("would(" + bar + ", " + what + ")", x.would(bar, what), model.would(bar, what));
                    break;
            }
        }

        void all() {
            int atFirst = marked ? 24 : dice.below(most);
            for (int bar = 0; bar < atFirst; bar++) {
                addBar();
            }
            if (marked) {
                markMost();
            }
            while (calls < CALLS) {
                if (dice.below(2) == 0) {
                    say();
                } else {
                    ask();
                }
            }
        }
    }

    public static void main(String[] args) {
        for (int number = 0; number < RUNS; number++) {
            Run run = new Run(number);
            run.all();
            comparedLong += run.model.comparedLong;
            parted += run.model.parted;
        }
        System.out.println(RUNS + " runs, " + wrong + " answers are not as due; both ways of the model were gone for "
                + comparedLong + " settings of more lines than " + Model.FEW_LINES + ", and parted " + parted + " times");
        if (wrong != 0 || parted != 0 || comparedLong == 0) {
            System.exit(1);
        }
    }
}
