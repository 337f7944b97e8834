import java.util.Random;

/** Runs of 512 calls with arguments by dice, each answer held against the model's; none is made behind them. */
final class RandomRunsTest {
    private static final int RUNS = 600;
    private static final int CALLS = 512;
    private static final int QUESTIONS = 9;
    // More than a change with a question, and all questions at the end, can make.
    private static final int LAST_ROUND = 30;

    private final Random dice;
    private final String name;
    private final TripReckoner made = new TripReckoner();
    private int calls = 0;
    private final Model m = new Model();

    private RandomRunsTest(int seed) {
        dice = new Random(seed);
        name = "run " + seed + " ";
    }

    public static void main(String[] args) {
        for (int seed = 0; seed < RUNS; seed++) {
            RandomRunsTest run = new RandomRunsTest(seed);
            while (run.calls < CALLS - LAST_ROUND) {
                run.change(seed % 3);
                run.ask(run.dice.nextInt(QUESTIONS));
            }
            for (int question = 0; question < QUESTIONS; question++) {
                run.ask(question);
            }
            Check.due("no more calls than an object is made for", run.calls <= CALLS, true);
        }
        Check.finish();
    }

    private TripReckoner x() {
        calls++;
        return made;
    }

    /** Mostly what is allowed, sometimes at its edge or beyond. */
    private int number(int least, int most) {
        switch (dice.nextInt(40)) {
            case 0:
                return least - 1;
            case 1:
                return most + 1;
            case 2:
                return least;
            case 3:
                return most;
            case 4:
                return dice.nextInt();
            default:
                return least + dice.nextInt(most - least + 1);
        }
    }

    private void change(int kind) {
        int roll = dice.nextInt(100);
        if (roll < 25) {
            int p = number(0, kind == 1 ? 100000 : 4000);
            int f = number(0, kind == 2 ? 10000 : 900);
            int s = number(1, 3600);
            Check.due(name + "drive", x().drive(p, f, s), m.drive(p, f, s));
        } else if (roll < 55) {
            floats();
        } else if (roll < 65) {
            int s = number(1, kind == 1 ? 36000 : 40);
            Check.due(name + "gap", x().gap(s), m.gap(s));
        } else if (roll < 69) {
            x().keep();
            m.keep();
        } else if (roll < 73) {
            int s = number(1, kind == 1 ? 36000 : 40);
            Check.due(name + "dead", x().dead(s), m.dead(s));
        } else if (roll < 78) {
            int k = number(0, 3);
            Check.due(name + "set", x().set(k), m.set(k));
        } else if (roll < 80) {
            settings();
        } else {
            route();
        }
    }

    /** Mostly near the span, so that refills are settled, too. */
    private void floats() {
        long middle = (m.told().least + m.told().greatest) / 2;
        int near = (int) (middle * 255 / m.cap) + dice.nextInt(9) - 4;
        int v = dice.nextInt(3) > 0 ? near : number(0, 255);
        Check.due(name + "tells", x().tells(v), m.tells(v));
    }

    private void settings() {
        if (dice.nextInt(3) == 0) {
            int cap = number(1000, 120000);
            int metres = number(1, 1000);
            int slop = number(0, dice.nextInt(2) == 0 ? 60 : 8);
            Check.due(name + "car", x().car(cap, metres, slop), m.car(cap, metres, slop));
        } else {
            int fast = number(1, 200);
            int thirst = number(1, 100);
            int low = number(1, 1000);
            int high = number(Math.max(1, Math.min(low, 999)), 1000);
            Check.due(name + "bounds", x().bounds(fast, thirst, low, high), m.bounds(fast, thirst, low, high));
        }
    }

    private int word(int most) {
        int word = 0;
        for (int i = 0; i < 4; i++) {
            word = word << 8 | 1 + dice.nextInt(most);
        }
        return dice.nextInt(200) == 0 ? dice.nextInt() : word;
    }

    private void route() {
        int most = dice.nextInt(2) == 0 ? 255 : 1 + dice.nextInt(100);
        int[] w = {word(most), word(most), word(most), word(most), word(most)};
        Check.due(name + "feed", x().feed(w[0], w[1], w[2], w[3], w[4]), m.feed(w));
        if (dice.nextInt(4) > 0) {
            int n = dice.nextInt(10) == 0 ? number(0, 60) : 2 * dice.nextInt(14) + 1;
            Check.due(name + "end", x().end(n), m.end(n));
        }
        if (dice.nextInt(3) > 0) {
            Check.due(name + "plan", x().plan(), m.plan());
        }
        int i = dice.nextInt(4);
        Check.due(name + "buys", x().buys(i), m.buys(i));
    }

    private void ask(int question) {
        boolean g = dice.nextBoolean();
        int k = number(0, 3);
        int what = number(0, 4);
        int part = number(0, 1);
        int refills = m.told().refills.size();
        int refill = dice.nextInt(3) == 0 ? refills - 1 : number(0, Math.max(1, refills) - 1);
        int station = number(0, 11);
        switch (question) {
            case 0 -> Check.due(name + "span", x().span(g), g ? m.told().greatest : m.told().least);
            case 1 -> Check.due(name + "shown", x().shown(), m.told().shown);
            case 2 -> Check.due(name + "count", x().count(what), m.count(what));
            case 3 -> Check.due(name + "range", x().range(g), m.range(g));
            case 4 -> dueLike("mark", m.mark(k, what), () -> x().mark(k, what));
            case 5 -> dueLike("metres", m.metres(k, g), () -> x().metres(k, g));
            case 6 -> dueLike("average", m.average(k, g, part), () -> x().average(k, g, part));
            case 7 -> dueLike("refill", m.refill(refill, g), () -> x().refill(refill, g));
            default -> Check.due(name + "buys", x().buys(station), m.buys(station));
        }
    }

    private void dueLike(String what, Long want, Check.Call call) {
        if (want == null) {
            Check.dueNone(name + what, call);
        } else {
            Check.due(name + what, call.answer(), want);
        }
    }
}
