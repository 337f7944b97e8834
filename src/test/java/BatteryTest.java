/** Promises 10 keep, 11 dead. */
final class BatteryTest {
    public static void main(String[] args) {
        allIsKept();
        lossesAndLiesAreTakenBack();
        spanAheadIsKept();
        notKept();
        settlingGoesOn();
        refillsComeBack();
        Check.finish();
    }

    private static void allIsKept() {
        TripReckoner x = new TripReckoner();
        x.tells(50);
        x.drive(7, 8, 9);
        x.tells(150);
        x.tells(20);
        x.drive(0, 10000, 1);
        x.drive(30, 0, 9);
        x.keep();
        int shown = x.shown();
        x.tells(150);
        x.tells(20);
        x.drive(0, 10000, 1);
        x.set(0);
        x.set(3);
        x.keep();
        x.tells(90);
        x.dead(1);
        Check.due("the latest keep: refills", x.count(0), 2);
        Check.due("losses", x.count(1), 2);
        Check.due("lies", x.count(2), 2);
        Check.due("jumps", x.count(3), 4);
        Check.dueMark("mark 0", x, 0, 0, 60, 0, 10, 1);
        Check.dueMark("mark 1", x, 1, 37, 97, 20008, 20018, 9 + 1 + 9 + 1 + 1);
        Check.dueSpan("span", x, 0, 0);
        Check.due("shown was above 0 once", shown > 0, true);
        x.dead(2);
        Check.dueMark("dead once more", x, 1, 37, 157, 20008, 20028, 9 + 1 + 9 + 1 + 2);
    }

    private static void lossesAndLiesAreTakenBack() {
        TripReckoner x = new TripReckoner();
        x.tells(100);
        x.keep();
        x.tells(20);
        x.drive(0, 10000, 1);
        Check.due("a loss", x.count(1), 1);
        Check.due("a lie", x.count(2), 1);
        x.dead(1);
        Check.due("no loss", x.count(1), 0);
        Check.due("no lie", x.count(2), 0);
    }

    /** The refill that was kept is settled by the span ahead of it, not of the one taken back. */
    private static void spanAheadIsKept() {
        TripReckoner x = new TripReckoner();
        x.car(25500, 20, 10);
        x.tells(20);
        x.tells(100);
        x.keep();
        x.tells(200);
        x.tells(205);
        x.dead(1);
        Check.due("refills", x.count(0), 1);
        x.tells(105);
        Check.due("least", x.refill(0, false), 9500 - 3100);
        x.tells(88);
        Check.due("greatest", x.refill(0, true), 9900 + 10 - 1000);
        x.tells(200);
        x.dead(1);
        Check.due("the least as kept", x.refill(0, false), 9000 - 3100);
        Check.due("the greatest as kept", x.refill(0, true), 11100 - 1000);
    }

    private static void notKept() {
        TripReckoner x = new TripReckoner();
        x.car(10000, 20, 0);
        x.bounds(1, 1, 1, 1000);
        x.tells(255);
        x.keep();
        x.bounds(3, 7, 2, 1000);
        x.feed(0x0A050A00, 0, 0, 0, 0);
        x.end(3);
        Check.due("a plan", x.plan(), 50);
        x.feed(1, 2, 3, 4, 5);
        x.dead(2);
        Check.due("the tape stays", x.count(4), 20);
        Check.due("the plan stays", x.buys(0), 10);
        Check.dueMark("the bounds stay", x, 0, 0, 6, 0, 14, 2);
        Check.due("LOW stays", x.range(true), 5000);
        Check.dueSpan("the least is less by the gap", x, 9986, 10000);
    }

    private static void settlingGoesOn() {
        TripReckoner x = new TripReckoner();
        x.car(25500, 20, 10);
        x.tells(20);
        Check.dueSpan("ahead", x, 1000, 3100);
        x.tells(100);
        x.drive(1, 100, 1);
        x.keep();
        x.drive(1, 900, 1);
        x.tells(95);
        Check.due("settled", x.refill(0, false), 8500 + 1000 - 3100);
        x.tells(30);
        x.dead(10);
        // 9000 to 11100 less 100, the least less 100 more.
        Check.dueSpan("behind the dead battery", x, 8800, 11000);
        Check.due("as it was kept", x.refill(0, false), 9000 - 3100);
        Check.due("as it was kept", x.refill(0, true), 11100 - 1000);
        x.tells(103);
        Check.dueSpan("narrowed", x, 9300, 11000);
        Check.due("settling goes on", x.refill(0, false), 9300 + 100 - 3100);
        x.tells(90);
        Check.dueSpan("narrowed", x, 9300, 10100);
        Check.due("W has the gap", x.refill(0, true), 10100 + 200 - 1000);
    }

    private static void refillsComeBack() {
        TripReckoner x = new TripReckoner();
        x.car(25500, 20, 0);
        Cars.fill(x, 30);
        x.keep();
        long first = x.refill(0, false);
        Cars.fill(x, 45);
        Check.due("75 refills", x.count(0), 75);
        Check.dueNone("the 44th is told no more", () -> x.refill(44, false));
        x.dead(1);
        Check.due("30 refills", x.count(0), 30);
        Check.due("the first is back", x.refill(0, false), first);
        for (int k = 0; k < 30; k++) {
            Check.due("refill " + k, x.refill(k, false), 100 * (50 + k) - 100);
            Check.due("refill " + k, x.refill(k, true), 100 * (51 + k));
        }
    }
}
