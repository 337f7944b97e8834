/** Every call that is refused, on objects with much and with little behind them: all later answers stay. */
final class RefusedTest {
    private static final int MIN = Integer.MIN_VALUE;
    private static final int MAX = Integer.MAX_VALUE;

    public static void main(String[] args) {
        for (Twins.Step past : Twins.PASTS) {
            cars(past);
            bounds(past);
            drives(past);
            gapsAndDeads(past);
            floats(past);
            sets(past);
            ends(past);
            marks(past);
            averages(past);
            questions(past);
        }
        feeds();
        pulsesLimit();
        noKilometres();
        refills();
        plans();
        Check.finish();
    }

    private static void cars(Twins.Step past) {
        Check.sentence("car: false, if a number is not as told");
        int[][] wrong = {{999, 20, 10}, {120001, 20, 10}, {0, 20, 10}, {-50000, 20, 10}, {MIN, 20, 10}, {MAX, 20, 10},
            {50000, 0, 10}, {50000, 1001, 10}, {50000, -1, 10}, {50000, MIN, 10}, {50000, MAX, 10},
            {50000, 20, -1}, {50000, 20, 61}, {50000, 20, MIN}, {50000, 20, MAX}, {999, 0, -1}, {120001, 1001, 61}};
        for (int[] w : wrong) {
            Twins.refused("car " + w[0] + " " + w[1] + " " + w[2], past, x -> x.car(w[0], w[1], w[2]) ? 1 : 0, 0);
        }
    }

    private static void bounds(Twins.Step past) {
        Check.sentence("bounds: false, if they are not as told");
        int[][] wrong = {{0, 10, 40, 120}, {201, 10, 40, 120}, {-1, 10, 40, 120}, {MIN, 10, 40, 120},
            {MAX, 10, 40, 120}, {60, 0, 40, 120}, {60, 101, 40, 120}, {60, -1, 40, 120}, {60, MIN, 40, 120},
            {60, MAX, 40, 120}, {60, 10, 0, 120}, {60, 10, -1, 120}, {60, 10, MIN, 120}, {60, 10, 40, 1001},
            {60, 10, 40, MAX}, {60, 10, 41, 40}, {60, 10, 1000, 999}, {60, 10, 1001, 1001}, {60, 10, 0, 0},
            {60, 10, MAX, MAX}, {60, 10, MAX, MIN}};
        for (int[] w : wrong) {
            Twins.refused("bounds " + w[0] + " " + w[1] + " " + w[2] + " " + w[3], past,
                x -> x.bounds(w[0], w[1], w[2], w[3]) ? 1 : 0, 0);
        }
    }

    private static void drives(Twins.Step past) {
        Check.sentence("drive: false, if pulses are not 0 to 100000, fuel not 0 to 10000, seconds not 1 to 3600");
        int[][] wrong = {{-1, 5, 5}, {100001, 5, 5}, {MIN, 5, 5}, {MAX, 5, 5}, {0, -1, 5}, {0, 10001, 5}, {0, MIN, 5},
            {0, MAX, 5}, {0, 5, 0}, {0, 5, 3601}, {0, 5, -1}, {0, 5, MIN}, {0, 5, MAX}};
        for (int[] w : wrong) {
            Twins.refused("drive " + w[0] + " " + w[1] + " " + w[2], past, x -> x.drive(w[0], w[1], w[2]) ? 1 : 0, 0);
        }
    }

    private static void gapsAndDeads(Twins.Step past) {
        int[] wrong = {0, -1, 36001, MIN, MAX};
        for (int seconds : wrong) {
            Check.sentence("gap: false, if seconds are not 1 to 36000");
            Twins.refused("gap " + seconds, past, x -> x.gap(seconds) ? 1 : 0, 0);
            Check.sentence("dead: false, and nothing is changed: as gap()");
            Twins.refused("dead " + seconds, past, x -> x.dead(seconds) ? 1 : 0, 0);
        }
    }

    private static void floats(Twins.Step past) {
        Check.sentence("tells: NONE: v is not 0 to 255");
        int[] wrong = {-1, 256, MIN, MAX};
        for (int v : wrong) {
            Twins.refused("tells " + v, past, x -> x.tells(v), TripReckoner.NONE);
        }
    }

    private static void sets(Twins.Step past) {
        Check.sentence("set: false: no such MARK");
        int[] wrong = {-1, 4, MIN, MAX};
        for (int k : wrong) {
            Twins.refused("set " + k, past, x -> x.set(k) ? 1 : 0, 0);
        }
    }

    private static void ends(Twins.Step past) {
        Check.sentence("end: false, if it has not so many, or n is below 0");
        int[] wrong = {-1, MIN, MAX, 61};
        for (int n : wrong) {
            Twins.refused("end " + n, past, x -> x.end(n) ? 1 : 0, 0);
        }
        Twins.refused("end one more", past, x -> x.end(x.count(4) + 1) ? 1 : 0, 0);
    }

    private static void marks(Twins.Step past) {
        Check.sentence("mark, metres: NoSuchElementException: no such MARK, or another what");
        int[] wrong = {-1, 4, MIN, MAX};
        for (int k : wrong) {
            Twins.refusedByThrow("mark " + k, past, x -> x.mark(k, 0));
            Twins.refusedByThrow("metres " + k, past, x -> x.metres(k, false));
            Twins.refusedByThrow("metres " + k, past, x -> x.metres(k, true));
        }
        int[] what = {-1, 5, MIN, MAX};
        for (int w : what) {
            Twins.refusedByThrow("mark 0 " + w, past, x -> x.mark(0, w));
            Twins.refusedByThrow("mark 3 " + w, past, x -> x.mark(3, w));
        }
    }

    private static void averages(Twins.Step past) {
        Check.sentence("average: NoSuchElementException: no such MARK, another what");
        int[] wrong = {-1, 4, MIN, MAX};
        for (int k : wrong) {
            Twins.refusedByThrow("average " + k, past, x -> x.average(k, false, 0));
            Twins.refusedByThrow("average " + k, past, x -> x.average(k, true, 1));
        }
        int[] what = {-1, 2, MIN, MAX};
        for (int w : what) {
            Twins.refusedByThrow("average what " + w, past, x -> x.average(0, false, w));
            Twins.refusedByThrow("average what " + w, past, x -> x.average(0, true, w));
        }
    }

    private static void questions(Twins.Step past) {
        Check.sentence("count: NONE for another what");
        int[] what = {-1, 5, MIN, MAX};
        for (int w : what) {
            Twins.refused("count " + w, past, x -> x.count(w), TripReckoner.NONE);
        }
        Check.sentence("buys: NONE: no such station");
        int[] station = {-1, 12, MIN, MAX};
        for (int i : station) {
            Twins.refused("buys " + i, past, x -> x.buys(i), TripReckoner.NONE);
        }
        Check.sentence("refill: NoSuchElementException: there is none such");
        int[] none = {-1, -30, MIN, MAX};
        for (int k : none) {
            Twins.refusedByThrow("refill " + k, past, x -> x.refill(k, false));
        }
        Twins.refusedByThrow("the next refill", past, x -> x.refill(x.count(0), true));
    }

    private static void feeds() {
        Check.sentence("feed: NONE, and none come, if it would have more than 60");
        int[] sizes = {41, 43, 59, 60};
        for (int n : sizes) {
            Twins.Step past = x -> {
                x.tells(255);
                Cars.lay(x, Cars.copies(3, n));
            };
            Twins.refused("feed behind " + n, past, x -> x.feed(-1, -1, -1, -1, -1), TripReckoner.NONE);
            // The bytes that were there are seen when the tape is cut to a route of 12 stations.
            Twins.alike("feed behind " + n + " and end 25", past, x -> {
                x.feed(-1, -1, -1, -1, -1);
                x.end(25);
            }, x -> x.end(25));
        }
    }

    private static void pulsesLimit() {
        Check.sentence("or PULSES, at most, since the beginning would be above 100000000");
        Twins.Step past = x -> {
            Cars.atTheLimit(x);
            x.keep();
            x.tells(100);
        };
        Twins.refused("drive", past, x -> x.drive(1, 5, 5) ? 1 : 0, 0);
        Twins.refused("the longest drive", past, x -> x.drive(100000, 10000, 3600) ? 1 : 0, 0);
        Twins.refused("gap", past, x -> x.gap(1) ? 1 : 0, 0);
        Twins.refused("the longest gap", past, x -> x.gap(36000) ? 1 : 0, 0);
        Twins.refused("dead", past, x -> x.dead(1) ? 1 : 0, 0);
        Twins.refused("the longest dead", past, x -> x.dead(36000) ? 1 : 0, 0);
    }

    private static void noKilometres() {
        Check.sentence("average: or there are no kilometres by which to divide");
        Twins.Step still = x -> x.drive(0, 100, 5);
        Twins.refusedByThrow("at most", still, x -> x.average(0, false, 0));
        Twins.refusedByThrow("at least", still, x -> x.average(0, true, 0));
        Twins.Step silent = x -> x.gap(5);
        Twins.refusedByThrow("a gap alone", silent, x -> x.average(0, true, 1));
    }

    private static void refills() {
        Check.sentence("refill: the latest 30 are told, others are none");
        Twins.Step past = x -> Cars.fill(x, 31);
        Twins.refusedByThrow("the first of 31", past, x -> x.refill(0, false));
        Twins.refusedByThrow("the first of 31", past, x -> x.refill(0, true));
    }

    private static void plans() {
        Twins.Step past = x -> {
            x.tells(255);
            Cars.planOf(x, 100, 5, 255, 9, 255);
        };
        Check.sentence("plan: -2: it is no ROUTE; the tape (empty then)");
        int[][] noRoutes = {{}, {1, 1}, {0}, {1, 0, 1}, {1, 1, 0}, {0, 1, 1}, Cars.copies(1, 26), Cars.copies(1, 27)};
        for (int[] bytes : noRoutes) {
            Twins.Step laid = past(past, bytes);
            Twins.alike("no route of " + bytes.length, laid, x -> Check.due("plan", x.plan(), -2), x -> x.end(0));
        }
        Check.sentence("plan: -1: there is none; the tape (empty then)");
        Twins.Step thirsty = x -> {
            past.on(x);
            x.bounds(60, 10, 40, 1000);
        };
        int[][] noPlans = {{255}, {255, 1, 1}, {1, 1, 255}, {20, 9, 20, 9, 51}};
        for (int[] bytes : noPlans) {
            Twins.Step laid = past(thirsty, bytes);
            Twins.alike("no plan of " + bytes.length, laid, x -> Check.due("plan", x.plan(), -1), x -> x.end(0));
        }
    }

    private static Twins.Step past(Twins.Step first, int[] bytes) {
        return x -> {
            first.on(x);
            Cars.lay(x, bytes);
        };
    }
}
