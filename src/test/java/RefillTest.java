/** Promise 18 refill: its amount, how it is settled, and which are told. */
final class RefillTest {
    public static void main(String[] args) {
        amounts();
        settled();
        gapsCount();
        setDoesNot();
        betweenFloats();
        endOfSettling();
        usedSinceTheLatest();
        latestThirty();
        Check.finish();
    }

    private static void dueRefill(String what, TripReckoner x, int k, int least, int greatest) {
        Check.due(what + ": least", x.refill(k, false), least);
        Check.due(what + ": greatest", x.refill(k, true), greatest);
    }

    /** 100 ml a step; 1000 to 3100 ahead of a refill that tells 9000 to 11100. */
    private static TripReckoner filled() {
        TripReckoner x = new TripReckoner();
        x.car(25500, 20, 10);
        x.tells(20);
        x.tells(100);
        return x;
    }

    private static void amounts() {
        TripReckoner x = new TripReckoner();
        Check.dueNone("none yet", () -> x.refill(0, false));
        Check.dueNone("none yet", () -> x.refill(-1, true));
        TripReckoner y = filled();
        dueRefill("the first", y, 0, 9000 - 3100, 11100 - 1000);
        Check.dueNone("no second", () -> y.refill(1, false));
        Check.dueNone("refill(-1)", () -> y.refill(-1, false));
        Check.dueNone("refill(-30)", () -> y.refill(-30, false));
        Check.dueNone("refill(MIN)", () -> y.refill(Integer.MIN_VALUE, true));
        Check.dueNone("refill(MAX)", () -> y.refill(Integer.MAX_VALUE, true));
        y.tells(200);
        dueRefill("the second", y, 1, 19000 - 11100, 21100 - 9000);
        dueRefill("the first still", y, 0, 9000 - 3100, 11100 - 1000);
    }

    private static void settled() {
        TripReckoner x = filled();
        x.drive(10, 500, 10);
        x.tells(105);
        // 8500 to 10600 and 9500 to 11600.
        dueRefill("the least is nearer", x, 0, 9500 + 500 - 3100, 11100 - 1000);
        x.tells(88);
        // 9500 to 10600 and 7800 to 9900.
        dueRefill("the greatest is nearer", x, 0, 9500 + 500 - 3100, 9900 + 500 - 1000);
        x.drive(10, 300, 10);
        x.tells(95);
        dueRefill("nothing new", x, 0, 6900, 9400);
    }

    private static void gapsCount() {
        TripReckoner x = filled();
        x.gap(10);
        // 100 ml at most.
        x.tells(105);
        Check.dueSpan("narrowed", x, 9500, 11100);
        dueRefill("U has no gap", x, 0, 9500 - 3100, 10100);
        x.tells(88);
        Check.dueSpan("narrowed", x, 9500, 9900);
        dueRefill("W has it", x, 0, 6400, 9900 + 100 - 1000);
    }

    private static void setDoesNot() {
        TripReckoner x = filled();
        x.drive(10, 500, 10);
        x.set(3);
        x.tells(105);
        dueRefill("mark 3 is another thing", x, 0, 9500 + 500 - 3100, 10100);
    }

    private static void betweenFloats() {
        TripReckoner x = filled();
        x.drive(10, 9000, 10);
        x.drive(10, 1000, 10);
        Check.dueSpan("the least is at 0", x, 0, 1100);
        dueRefill("only a float settles", x, 0, 5900, 10100);
        x.tells(0);
        dueRefill("then it is settled", x, 0, 10000 - 3100, 10100);
    }

    private static void endOfSettling() {
        TripReckoner x = filled();
        Check.due("a loss", x.tells(50), 2);
        x.drive(10, 500, 10);
        Check.due("a float", x.tells(50), 0);
        dueRefill("not behind a loss", x, 0, 5900, 10100);
        TripReckoner y = filled();
        y.drive(0, 10000, 1);
        y.drive(0, 10000, 1);
        Check.due("a lie", y.count(2), 1);
        Check.due("a float", y.tells(0), 0);
        dueRefill("not behind a lie", y, 0, 5900, 10100);
        TripReckoner z = filled();
        z.tells(200);
        z.drive(0, 500, 1);
        Check.due("a float", z.tells(205), 0);
        dueRefill("not behind another refill", z, 0, 5900, 10100);
        dueRefill("that one is settled", z, 1, 19500 + 500 - 11100, 12100);
    }

    private static void usedSinceTheLatest() {
        TripReckoner x = filled();
        x.drive(0, 500, 1);
        x.gap(10);
        Check.due("another refill", x.tells(200), 1);
        // 8400 to 10600 ahead of it.
        dueRefill("the second", x, 1, 19000 - 10600, 21100 - 8400);
        x.tells(203);
        dueRefill("U from the second on", x, 1, 19300 - 10600, 21100 - 8400);
        x.tells(190);
        dueRefill("W from the second on", x, 1, 19300 - 10600, 20100 - 8400);
    }

    private static void latestThirty() {
        TripReckoner x = new TripReckoner();
        x.car(25500, 20, 0);
        for (int i = 0; i < 62; i++) {
            x.tells(0);
            x.tells(50 + i);
            int first = Math.max(0, i - 29);
            dueRefill("refill " + i, x, i, 100 * (50 + i) - 100, 100 * (51 + i));
            dueRefill("the first one told", x, first, 100 * (50 + first) - 100, 100 * (51 + first));
            Check.dueNone("the one ahead of it", () -> x.refill(first - 1, false));
        }
        Check.due("all are counted", x.count(0), 62);
        Check.dueNone("the first", () -> x.refill(0, false));
        Check.dueNone("the next", () -> x.refill(62, false));
    }
}
