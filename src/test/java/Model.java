import java.math.BigInteger;
import java.util.ArrayList;
import java.util.List;

/**
 * The document once more, told another way: it keeps what happened since the beginning
 * and goes through all of it for each answer.
 */
final class Model {
    /** What happened: kind 0 driven or a gap, 1 the float, 2 a mark is set. */
    record Event(int kind, int a, int b, int c, int d, int e) {
    }

    static final class Refill {
        long least;
        long greatest;
    }

    static final class Told {
        long least = 0;
        long greatest;
        long[][] marks = new long[4][5];
        List<Refill> refills = new ArrayList<>();
        int losses = 0;
        int lies = 0;
        int jumps = 0;
        long shown = 0;
        int latest = 0;
        // What the latest refill is settled by; none behind a loss or a lie.
        long[] ahead = null;
        long u = 0;
        long w = 0;
    }

    int cap = 50000;
    int metres = 20;
    int slop = 10;
    int fast = 60;
    int thirst = 10;
    int low = 40;
    int high = 120;
    long pulses = 0;
    List<Event> past = new ArrayList<>();
    List<Event> keptPast = new ArrayList<>();
    List<Integer> tape = new ArrayList<>();
    List<Integer> planned = null;

    static boolean outside(int n, int a, int b) {
        return n < a || n > b;
    }

    Told told() {
        Told t = new Told();
        t.greatest = cap;
        for (Event e : past) {
            switch (e.kind()) {
                case 0 -> pass(t, e);
                case 1 -> t.latest = floats(t, e.a());
                default -> t.marks[e.a()] = new long[5];
            }
        }
        return t;
    }

    private static void pass(Told t, Event e) {
        for (long[] m : t.marks) {
            m[0] += e.a();
            m[1] += e.b();
            m[2] += e.c();
            m[3] += e.d();
            m[4] += e.e();
        }
        t.u += e.c();
        t.w += e.d();
        if (e.c() > t.greatest) {
            t.lies++;
            t.ahead = null;
        }
        t.least = Math.max(t.least - e.d(), 0);
        t.greatest = Math.max(t.greatest - e.c(), 0);
        step(t);
    }

    private static void step(Told t) {
        long truth = (t.least + t.greatest) / 2 / 1000;
        t.shown += Long.signum(truth - t.shown);
    }

    private int floats(Told t, int v) {
        long f = v - slop < 0 ? 0 : (long) cap * (v - slop) / 255;
        long g = Math.min(cap, (long) cap * (v + 1 + slop) / 255);
        long a = Math.max(f, t.least);
        long b = Math.min(g, t.greatest);
        if (a <= b) {
            t.least = a;
            t.greatest = b;
            if (t.ahead != null) {
                Refill r = t.refills.get(t.refills.size() - 1);
                r.least = Math.max(r.least, t.least + t.u - t.ahead[1]);
                r.greatest = Math.min(r.greatest, t.greatest + t.w - t.ahead[0]);
            }
            step(t);
            return 0;
        }
        boolean refill = f > t.greatest;
        t.ahead = null;
        if (refill) {
            Refill r = new Refill();
            r.least = f - t.greatest;
            r.greatest = g - t.least;
            t.refills.add(r);
            t.ahead = new long[] {t.least, t.greatest};
            t.u = 0;
            t.w = 0;
            t.marks[3] = new long[5];
        } else {
            t.losses++;
        }
        t.least = f;
        t.greatest = g;
        long truth = (f + g) / 2 / 1000;
        if (truth != t.shown) {
            t.jumps++;
        }
        t.shown = truth;
        return refill ? 1 : 2;
    }

    int feed(int... words) {
        if (tape.size() > 40) {
            return -1;
        }
        for (int word : words) {
            for (byte b : BigInteger.valueOf(word & 0xFFFFFFFFL | 1L << 32).toByteArray()) {
                tape.add(b & 255);
            }
            tape.remove(tape.size() - 5);
        }
        return tape.size();
    }

    boolean end(int n) {
        if (outside(n, 0, tape.size())) {
            return false;
        }
        tape = new ArrayList<>(tape.subList(0, n));
        return true;
    }

    boolean car(int newCap, int newMetres, int newSlop) {
        if (outside(newCap, 1000, 120000) || outside(newMetres, 1, 1000) || outside(newSlop, 0, 60)) {
            return false;
        }
        cap = newCap;
        metres = newMetres;
        slop = newSlop;
        pulses = 0;
        past = new ArrayList<>();
        keptPast = new ArrayList<>();
        return true;
    }

    boolean bounds(int f, int t, int l, int h) {
        if (outside(f, 1, 200) || outside(t, 1, 100) || l < 1 || l > h || h > 1000) {
            return false;
        }
        fast = f;
        thirst = t;
        low = l;
        high = h;
        return true;
    }

    boolean drive(int p, int f, int s) {
        if (outside(p, 0, 100000) || outside(f, 0, 10000) || outside(s, 1, 3600) || pulses + p > 100000000) {
            return false;
        }
        pulses += p;
        past.add(new Event(0, p, p, f, f, s));
        return true;
    }

    boolean gap(int s) {
        if (outside(s, 1, 36000) || pulses + fast * s > 100000000) {
            return false;
        }
        pulses += fast * s;
        past.add(new Event(0, 0, fast * s, 0, thirst * s, s));
        return true;
    }

    int tells(int v) {
        if (outside(v, 0, 255)) {
            return -1;
        }
        past.add(new Event(1, v, 0, 0, 0, 0));
        return told().latest;
    }

    boolean set(int k) {
        if (outside(k, 0, 3)) {
            return false;
        }
        past.add(new Event(2, k, 0, 0, 0, 0));
        return true;
    }

    void keep() {
        keptPast = new ArrayList<>(past);
    }

    boolean dead(int s) {
        List<Event> before = past;
        past = new ArrayList<>(keptPast);
        if (gap(s)) {
            return true;
        }
        past = before;
        return false;
    }

    /** Null: none such. */
    Long mark(int k, int what) {
        return outside(k, 0, 3) || outside(what, 0, 4) ? null : (Long) told().marks[k][what];
    }

    Long metres(int k, boolean greatest) {
        return outside(k, 0, 3) ? null : (Long) (told().marks[k][greatest ? 1 : 0] * metres / 100);
    }

    Long average(int k, boolean greatest, int what) {
        if (outside(k, 0, 3) || outside(what, 0, 1)) {
            return null;
        }
        long[] m = told().marks[k];
        BigInteger fuel = BigInteger.valueOf(greatest ? m[3] : m[2]).multiply(BigInteger.valueOf(100000));
        BigInteger way = BigInteger.valueOf(greatest ? m[0] : m[1]).multiply(BigInteger.valueOf(metres));
        if (way.signum() == 0) {
            return null;
        }
        return (what == 0 ? fuel : way).divide(fuel.gcd(way)).longValueExact();
    }

    Long refill(int k, boolean greatest) {
        List<Refill> all = told().refills;
        if (outside(k, Math.max(0, all.size() - 30), all.size() - 1)) {
            return null;
        }
        return greatest ? all.get(k).greatest : all.get(k).least;
    }

    long range(boolean greatest) {
        return greatest ? told().greatest / low : told().least / high;
    }

    int plan() {
        List<Integer> route = tape;
        tape = new ArrayList<>();
        if (route.size() % 2 == 0 || route.size() > 25 || route.contains(0)) {
            return -2;
        }
        int first = legLitres(route, 0);
        int litres = (int) (told().least / 1000);
        if (first > litres) {
            return -1;
        }
        Integer[][] known = new Integer[13][121];
        List<Integer> bought = new ArrayList<>();
        int left = litres - first;
        int all = toGo(route, 0, left, known);
        if (all == Integer.MAX_VALUE) {
            return -1;
        }
        for (int i = 0; 2 * i + 1 < route.size(); i++) {
            int want = toGo(route, i, left, known);
            int buy = 0;
            while (costBuying(route, i, left, buy, known) != want) {
                buy++;
            }
            bought.add(buy);
            left += buy - legLitres(route, i + 1);
        }
        planned = bought;
        return all;
    }

    private int legLitres(List<Integer> route, int leg) {
        return (int) Math.ceil(route.get(2 * leg) * high / 1000.0);
    }

    private int toGo(List<Integer> route, int station, int litres, Integer[][] known) {
        if (2 * station + 1 >= route.size()) {
            return 0;
        }
        if (known[station][litres] == null) {
            int least = Integer.MAX_VALUE;
            for (int buy = 0; litres + buy <= cap / 1000; buy++) {
                least = Math.min(least, costBuying(route, station, litres, buy, known));
            }
            known[station][litres] = least;
        }
        return known[station][litres];
    }

    private int costBuying(List<Integer> route, int station, int litres, int buy, Integer[][] known) {
        int left = litres + buy - legLitres(route, station + 1);
        int behind = left < 0 ? Integer.MAX_VALUE : toGo(route, station + 1, left, known);
        return behind == Integer.MAX_VALUE ? behind : behind + buy * route.get(2 * station + 1);
    }

    int buys(int i) {
        return planned == null || outside(i, 0, planned.size() - 1) ? -1 : planned.get(i);
    }

    int count(int what) {
        Told t = told();
        int[] all = {t.refills.size(), t.losses, t.lies, t.jumps, tape.size()};
        return outside(what, 0, 4) ? -1 : all[what];
    }
}
