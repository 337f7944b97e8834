/** Promise 18 refill: its amount, how it is settled, and which are told. */
final class RefillTest {
    public static void main(String[] args) {
        amounts();
        settled();
        gapsCount();
        setDoesNot();
        betweenFloats();
        endOfSettling();
        usedSinceTheLatest();
        Check.finish();
    }

    private static void amounts() {
        TripReckoner y = Cars.filled();
        Check.dueRefill("the first", y, 0, 9000 - 3100, 11100 - 1000);
        Check.dueNone("no second", () -> y.refill(1, false));
        y.tells(200);
        Check.dueRefill("the second", y, 1, 19000 - 11100, 21100 - 9000);
        Check.dueRefill("the first still", y, 0, 9000 - 3100, 11100 - 1000);
    }

    private static void settled() {
        TripReckoner x = Cars.filled();
        x.drive(10, 500, 10);
        x.tells(105);
        // 8500 to 10600 and 9500 to 11600.
        Check.dueRefill("the least is nearer", x, 0, 9500 + 500 - 3100, 11100 - 1000);
        x.tells(88);
        // 9500 to 10600 and 7800 to 9900.
        Check.dueRefill("the greatest is nearer", x, 0, 9500 + 500 - 3100, 9900 + 500 - 1000);
        x.drive(10, 300, 10);
        x.tells(95);
        Check.dueRefill("nothing new", x, 0, 6900, 9400);
    }

    private static void gapsCount() {
        TripReckoner x = Cars.filled();
        x.gap(10);
        // 100 ml at most.
        x.tells(105);
        Check.dueSpan("narrowed", x, 9500, 11100);
        Check.dueRefill("U has no gap", x, 0, 9500 - 3100, 10100);
        x.tells(88);
        Check.dueSpan("narrowed", x, 9500, 9900);
        Check.dueRefill("W has it", x, 0, 6400, 9900 + 100 - 1000);
    }

    private static void setDoesNot() {
        TripReckoner x = Cars.filled();
        x.drive(10, 500, 10);
        x.set(3);
        x.tells(105);
        Check.dueRefill("mark 3 is another thing", x, 0, 9500 + 500 - 3100, 10100);
    }

    private static void betweenFloats() {
        TripReckoner x = Cars.filled();
        x.drive(10, 9000, 10);
        x.drive(10, 1000, 10);
        Check.dueSpan("the least is at 0", x, 0, 1100);
        Check.dueRefill("only a float settles", x, 0, 5900, 10100);
        x.tells(0);
        Check.dueRefill("then it is settled", x, 0, 10000 - 3100, 10100);
    }

    private static void endOfSettling() {
        TripReckoner x = Cars.filled();
        Check.due("a loss", x.tells(50), 2);
        x.drive(10, 500, 10);
        Check.due("a float", x.tells(50), 0);
        Check.dueRefill("not behind a loss", x, 0, 5900, 10100);
        TripReckoner y = Cars.filled();
        y.drive(0, 10000, 1);
        y.drive(0, 10000, 1);
        Check.due("a lie", y.count(2), 1);
        Check.due("a float", y.tells(0), 0);
        Check.dueRefill("not behind a lie", y, 0, 5900, 10100);
        TripReckoner z = Cars.filled();
        z.tells(200);
        z.drive(0, 500, 1);
        Check.due("a float", z.tells(205), 0);
        Check.dueRefill("not behind another refill", z, 0, 5900, 10100);
        Check.dueRefill("that one is settled", z, 1, 19500 + 500 - 11100, 12100);
    }

    private static void usedSinceTheLatest() {
        TripReckoner x = Cars.filled();
        x.drive(0, 500, 1);
        x.gap(10);
        Check.due("another refill", x.tells(200), 1);
        // 8400 to 10600 ahead of it.
        Check.dueRefill("the second", x, 1, 19000 - 10600, 21100 - 8400);
        x.tells(203);
        Check.dueRefill("U from the second on", x, 1, 19300 - 10600, 21100 - 8400);
        x.tells(190);
        Check.dueRefill("W from the second on", x, 1, 19300 - 10600, 20100 - 8400);
    }
}
