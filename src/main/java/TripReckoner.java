import java.util.NoSuchElementException;

/**
 * A car's reckoner: it holds the pulses of wheel and pump against a float that lies,
 * tells what is in the tank as a span, and plans where to fill at least cost.
 */
public final class TripReckoner {
    public static final int NONE = -1;

    private static final int MARKS = 4;
    private static final int PULSES_LEAST = 0;
    private static final int PULSES_MOST = 1;
    private static final int FUEL_LEAST = 2;
    private static final int FUEL_MOST = 3;
    private static final int SECONDS = 4;
    private static final int MARK_NUMBERS = 5;
    private static final int REFILL_MARK = 3;
    private static final int REFILLS_TOLD = 30;
    private static final int FLOAT_STEPS = 255;
    private static final int IN_SPAN = 0;
    private static final int IS_REFILL = 1;
    private static final int IS_LOSS = 2;
    private static final long PULSES_LIMIT = 100000000L;

    private final Ledger now = new Ledger();
    private final Ledger kept = new Ledger();
    private final Tape tape = new Tape();
    private final Planner planner = new Planner();
    private int tankSize = 50000;
    private int metresPerHundred = 20;
    private int floatSlop = 10;
    private int fastest = 60;
    private int thirstiest = 10;
    private int lowUse = 40;
    private int highUse = 120;
    // No part of the ledger, since a dead battery does not take it back.
    private long pulsesInAll = 0;

    public TripReckoner() {
        now.begin(tankSize);
        kept.begin(tankSize);
    }

    public int feed(int a, int b, int c, int d, int e) {
        if (!tape.hasRoom()) {
            return NONE;
        }
        tape.push(a);
        tape.push(b);
        tape.push(c);
        tape.push(d);
        tape.push(e);
        return tape.size;
    }

    public boolean end(int n) {
        return tape.shorten(n);
    }

    public boolean car(int cap, int metres, int slop) {
        if (!within(cap, 1000, 120000) || !within(metres, 1, 1000) || !within(slop, 0, 60)) {
            return false;
        }
        tankSize = cap;
        metresPerHundred = metres;
        floatSlop = slop;
        pulsesInAll = 0;
        now.begin(cap);
        kept.begin(cap);
        return true;
    }

    public boolean bounds(int fast, int thirst, int low, int high) {
        if (!checkedBounds(fast, thirst, low, high)) {
            return false;
        }
        fastest = fast;
        thirstiest = thirst;
        lowUse = low;
        highUse = high;
        return true;
    }

    public boolean drive(int pulses, int fuel, int seconds) {
        if (!within(pulses, 0, 100000) || !within(fuel, 0, 10000) || !within(seconds, 1, 3600)) {
            return false;
        }
        if (pulsesInAll + pulses > PULSES_LIMIT) {
            return false;
        }
        pulsesInAll += pulses;
        now.pass(pulses, pulses, fuel, fuel, seconds);
        now.burn(fuel);
        now.showStep();
        return true;
    }

    public boolean gap(int seconds) {
        if (!gapFits(seconds)) {
            return false;
        }
        passGap(seconds);
        return true;
    }

    public int tells(int v) {
        if (!within(v, 0, FLOAT_STEPS)) {
            return NONE;
        }
        int least = Math.max(0, tankSize * (v - floatSlop) / FLOAT_STEPS);
        int greatest = Math.min(tankSize, tankSize * (v + 1 + floatSlop) / FLOAT_STEPS);
        if (least > now.spanGreatest) {
            now.takeRefill(least, greatest);
            return IS_REFILL;
        }
        if (greatest < now.spanLeast) {
            now.takeLoss(least, greatest);
            return IS_LOSS;
        }
        now.narrow(least, greatest);
        return IN_SPAN;
    }

    public boolean set(int k) {
        if (!isMark(k)) {
            return false;
        }
        now.clearMark(k);
        return true;
    }

    public void keep() {
        kept.copyFrom(now);
    }

    public boolean dead(int seconds) {
        if (!gapFits(seconds)) {
            return false;
        }
        now.copyFrom(kept);
        passGap(seconds);
        return true;
    }

    public int span(boolean greatest) {
        return greatest ? now.spanGreatest : now.spanLeast;
    }

    public long mark(int k, int what) throws NoSuchElementException {
        if (!isMark(k) || !within(what, PULSES_LEAST, SECONDS)) {
            throw new NoSuchElementException("no such mark or number");
        }
        return now.marked(k, what);
    }

    public long metres(int k, boolean greatest) throws NoSuchElementException {
        if (!isMark(k)) {
            throw new NoSuchElementException("no such mark");
        }
        return wayInHundredths(k, greatest) / 100;
    }

    public long average(int k, boolean greatest, int what) throws NoSuchElementException {
        if (!isMark(k) || !within(what, 0, 1)) {
            throw new NoSuchElementException("no such mark or number");
        }
        long lower = wayInHundredths(k, !greatest);
        if (lower < 1) {
            throw new NoSuchElementException("no kilometres");
        }
        // 100000 hundredths of a metre are a kilometre.
        long upper = now.marked(k, greatest ? FUEL_MOST : FUEL_LEAST) * 100000L;
        long common = commonDivisor(lower, upper);
        return what == 0 ? upper / common : lower / common;
    }

    public int range(boolean greatest) {
        return greatest ? kilometresOn(now.spanGreatest, lowUse) : kilometresOn(now.spanLeast, highUse);
    }

    public int shown() {
        return now.shownLitres;
    }

    public int refill(int k, boolean greatest) throws NoSuchElementException {
        if (!now.tellsRefill(k)) {
            throw new NoSuchElementException("no such refill");
        }
        return now.amount(k, greatest);
    }

    public int plan() {
        boolean route = planner.read(tape, highUse);
        tape.shorten(0);
        if (!route) {
            return Planner.NO_ROUTE;
        }
        return planner.reckon(now.spanLeast / 1000, tankSize / 1000);
    }

    public int buys(int i) {
        return planner.boughtAt(i);
    }

    public int count(int what) {
        switch (what) {
            case 0:
                return now.refills;
            case 1:
                return now.losses;
            case 2:
                return now.lies;
            case 3:
                return now.jumps;
            case 4:
                return tape.size;
            default:
                return NONE;
        }
    }

    private static boolean within(int number, int least, int most) {
        return number >= least && number <= most;
    }

    private static boolean isMark(int k) {
        return within(k, 0, MARKS - 1);
    }

    private static boolean checkedBounds(int fast, int thirst, int low, int high) {
        return within(fast, 1, 200) && within(thirst, 1, 100) && within(high, 1, 1000) && within(low, 1, high);
    }

    private boolean gapFits(int seconds) {
        return within(seconds, 1, 36000) && pulsesInAll + (long) fastest * seconds <= PULSES_LIMIT;
    }

    private void passGap(int seconds) {
        int pulses = fastest * seconds;
        int fuel = thirstiest * seconds;
        pulsesInAll += pulses;
        now.pass(0, pulses, 0, fuel, seconds);
        now.doubt(fuel);
        now.showStep();
    }

    private long wayInHundredths(int k, boolean greatest) {
        return now.marked(k, greatest ? PULSES_MOST : PULSES_LEAST) * metresPerHundred;
    }

    private static int kilometresOn(int fuel, int use) {
        // BOUNDS let nothing below 1 in; looked at all the same, since it divides.
        return use < 1 ? 0 : fuel / use;
    }

    /** Of two numbers of 0 or more: 1 at least, since it divides. */
    private static long commonDivisor(long first, long second) {
        long a = first;
        long b = second;
        // Two longs need fewer than 100 steps.
        for (int step = 0; step < 100 && b > 0; step++) {
            long rest = a % b;
            a = b;
            b = rest;
        }
        return Math.max(1L, a);
    }

    /** All that a dead battery takes back to what was kept. */
    private static final class Ledger {
        private int spanLeast;
        private int spanGreatest;
        private int refills;
        private int losses;
        private int lies;
        private int jumps;
        private int shownLitres;
        private boolean settling;
        private int aheadLeast;
        private int aheadGreatest;
        // Not mark 3, which set() clears too.
        private long usedLeast;
        private long usedMost;
        private final long[] marks = new long[MARKS * MARK_NUMBERS];
        private final int[] amountsLeast = new int[REFILLS_TOLD];
        private final int[] amountsGreatest = new int[REFILLS_TOLD];

        private void begin(int cap) {
            spanLeast = 0;
            spanGreatest = cap;
            refills = 0;
            losses = 0;
            lies = 0;
            jumps = 0;
            shownLitres = 0;
            settling = false;
            for (int k = 0; k < MARKS; k++) {
                clearMark(k);
            }
        }

        private void copyFrom(Ledger other) {
            spanLeast = other.spanLeast;
            spanGreatest = other.spanGreatest;
            refills = other.refills;
            losses = other.losses;
            lies = other.lies;
            jumps = other.jumps;
            shownLitres = other.shownLitres;
            settling = other.settling;
            aheadLeast = other.aheadLeast;
            aheadGreatest = other.aheadGreatest;
            usedLeast = other.usedLeast;
            usedMost = other.usedMost;
            System.arraycopy(other.marks, 0, marks, 0, MARKS * MARK_NUMBERS);
            System.arraycopy(other.amountsLeast, 0, amountsLeast, 0, REFILLS_TOLD);
            System.arraycopy(other.amountsGreatest, 0, amountsGreatest, 0, REFILLS_TOLD);
        }

        private void clearMark(int k) {
            for (int what = 0; what < MARK_NUMBERS; what++) {
                marks[k * MARK_NUMBERS + what] = 0;
            }
        }

        private long marked(int k, int what) {
            return marks[k * MARK_NUMBERS + what];
        }

        private void pass(int pulsesLeast, int pulsesMost, int fuelLeast, int fuelMost, int seconds) {
            for (int k = 0; k < MARKS; k++) {
                int row = k * MARK_NUMBERS;
                marks[row + PULSES_LEAST] += pulsesLeast;
                marks[row + PULSES_MOST] += pulsesMost;
                marks[row + FUEL_LEAST] += fuelLeast;
                marks[row + FUEL_MOST] += fuelMost;
                marks[row + SECONDS] += seconds;
            }
            usedLeast += fuelLeast;
            usedMost += fuelMost;
        }

        private void burn(int fuel) {
            if (fuel > spanGreatest) {
                lies++;
                settling = false;
            }
            spanLeast = Math.max(0, spanLeast - fuel);
            spanGreatest = Math.max(0, spanGreatest - fuel);
        }

        private void doubt(int fuel) {
            spanLeast = Math.max(0, spanLeast - fuel);
        }

        private void narrow(int least, int greatest) {
            spanLeast = Math.max(spanLeast, least);
            spanGreatest = Math.min(spanGreatest, greatest);
            settle();
            showStep();
        }

        private void settle() {
            if (!settling) {
                return;
            }
            int place = placeOf(refills - 1);
            long least = spanLeast + usedLeast - aheadGreatest;
            long greatest = spanGreatest + usedMost - aheadLeast;
            // Only the nearer one is taken, so each fits an int again.
            amountsLeast[place] = (int) Math.max(amountsLeast[place], least);
            amountsGreatest[place] = (int) Math.min(amountsGreatest[place], greatest);
        }

        /** A place in the rows for any number, since it is used as an index. */
        private static int placeOf(int refill) {
            return Math.floorMod(refill, REFILLS_TOLD);
        }

        private void takeRefill(int least, int greatest) {
            int place = placeOf(refills);
            amountsLeast[place] = least - spanGreatest;
            amountsGreatest[place] = greatest - spanLeast;
            refills++;
            settling = true;
            aheadLeast = spanLeast;
            aheadGreatest = spanGreatest;
            usedLeast = 0;
            usedMost = 0;
            clearMark(REFILL_MARK);
            takeFloat(least, greatest);
        }

        private void takeLoss(int least, int greatest) {
            losses++;
            settling = false;
            takeFloat(least, greatest);
        }

        private void takeFloat(int least, int greatest) {
            spanLeast = least;
            spanGreatest = greatest;
            if (shownLitres != truth()) {
                jumps++;
                shownLitres = truth();
            }
        }

        private int truth() {
            return (spanLeast + spanGreatest) / 2000;
        }

        private void showStep() {
            shownLitres += Integer.compare(truth(), shownLitres);
        }

        private boolean tellsRefill(int k) {
            return k >= 0 && k < refills && k >= refills - REFILLS_TOLD;
        }

        private int amount(int k, boolean greatest) {
            int place = placeOf(k);
            return greatest ? amountsGreatest[place] : amountsLeast[place];
        }
    }

    private static final class Tape {
        private static final int MOST = 60;
        private static final int FED = 20;

        private final int[] bytes = new int[MOST];
        private int size = 0;

        private boolean hasRoom() {
            return size + FED <= MOST;
        }

        private void push(int number) {
            for (int shift = 24; shift >= 0 && size < MOST; shift -= 8) {
                bytes[size] = (number >>> shift) & 255;
                size++;
            }
        }

        private boolean shorten(int n) {
            if (n < 0 || n > size) {
                return false;
            }
            size = n;
            return true;
        }
    }

    /** Holds the route that was read last and what the latest plan buys. */
    private static final class Planner {
        private static final int NO_PLAN = -1;
        private static final int NO_ROUTE = -2;
        private static final int MOST_STATIONS = 12;
        private static final int MOST_LITRES = 120;
        // Above any cost, and far enough from the end of int to add one to it.
        private static final int NEVER = 1000000000;

        private final int[] legs = new int[MOST_STATIONS + 1];
        private final int[] prices = new int[MOST_STATIONS];
        private final int[] toGo = new int[MOST_LITRES + 1];
        private final int[] fillTo = new int[MOST_STATIONS * (MOST_LITRES + 1)];
        private final int[] bought = new int[MOST_STATIONS];
        private int stations = 0;
        // Apart from stations, since a route without a plan leaves the latest plan.
        private int plannedStations = 0;

        private boolean read(Tape tape, int highUse) {
            if (tape.size % 2 == 0 || tape.size > 2 * MOST_STATIONS + 1) {
                return false;
            }
            for (int i = 0; i < tape.size; i++) {
                if (tape.bytes[i] == 0) {
                    return false;
                }
            }
            stations = tape.size / 2;
            for (int i = 0; i <= stations; i++) {
                legs[i] = (tape.bytes[2 * i] * highUse + 999) / 1000;
            }
            for (int i = 0; i < stations; i++) {
                prices[i] = tape.bytes[2 * i + 1];
            }
            return true;
        }

        private int reckon(int litres, int tankLitres) {
            int room = Math.min(tankLitres, MOST_LITRES);
            int left = Math.min(litres, room) - legs[0];
            if (left < 0) {
                return NO_PLAN;
            }
            reckonBackwards(room);
            int cost = toGo[left];
            if (cost >= NEVER) {
                return NO_PLAN;
            }
            buyForwards(left);
            return cost;
        }

        /** Leaves in toGo the least cost from the first station on, by the litres one comes there with. */
        private void reckonBackwards(int room) {
            for (int litres = 0; litres <= room; litres++) {
                toGo[litres] = 0;
            }
            for (int station = stations - 1; station >= 0; station--) {
                reckonStation(station, room);
            }
        }

        private void reckonStation(int station, int room) {
            int leg = legs[station + 1];
            int price = prices[station];
            int row = station * (MOST_LITRES + 1);
            int best = NEVER;
            int bestFill = room;
            // Downwards, so that one row is enough (a leg takes 1 litre or more: what is read
            // lies below what was written), and of like costs the smaller purchase is taken.
            for (int fill = room; fill >= 0; fill--) {
                int behind = fill >= leg ? toGo[fill - leg] : NEVER;
                if (behind < NEVER && behind + fill * price <= best) {
                    best = behind + fill * price;
                    bestFill = fill;
                }
                toGo[fill] = best < NEVER ? best - fill * price : NEVER;
                fillTo[row + fill] = bestFill;
            }
        }

        private void buyForwards(int firstLitres) {
            int litres = firstLitres;
            // A route with a cost never leaves the row; litres is looked at since it is an index.
            for (int station = 0; station < stations && within(litres, 0, MOST_LITRES); station++) {
                int fill = fillTo[station * (MOST_LITRES + 1) + litres];
                bought[station] = fill - litres;
                litres = fill - legs[station + 1];
            }
            plannedStations = stations;
        }

        private int boughtAt(int station) {
            return station >= 0 && station < plannedStations ? bought[station] : NONE;
        }
    }
}
