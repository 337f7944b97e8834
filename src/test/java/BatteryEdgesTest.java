/** The edges of promises 10 keep, 11 dead. */
final class BatteryEdgesTest {
    public static void main(String[] args) {
        seconds();
        pulses();
        refusedLeavesWhatIsKept();
        atTheBeginning();
        theLatestKeep();
        deadTwice();
        keepBehindDead();
        emptyAndFull();
        boundsOfNow();
        tapeAndPlanStay();
        moreRefillsThanAreTold();
        settlingEnded();
        Check.finish();
    }

    private static void dueDead(int seconds, boolean taken) {
        TripReckoner x = Cars.plain();
        x.tells(50);
        x.keep();
        x.tells(100);
        Check.due("dead " + seconds, x.dead(seconds), taken);
        Check.due("refills", x.count(0), taken ? 0 : 1);
        Check.dueMark("dead " + seconds, x, 0, 0, taken ? 60L * seconds : 0, 0, taken ? 10L * seconds : 0,
            taken ? seconds : 0);
        if (taken) {
            Check.dueSpan("dead " + seconds, x, Math.max(0, 5000 - 10 * seconds), 5100);
        } else {
            Check.dueSpan("dead " + seconds, x, 10000, 10100);
        }
    }

    private static void seconds() {
        Check.sentence("Promise 11: true; false, and nothing is changed: as gap(): seconds are not 1 to 36000");
        dueDead(0, false);
        dueDead(1, true);
        dueDead(499, true);
        dueDead(500, true);
        dueDead(501, true);
        dueDead(36000, true);
        dueDead(36001, false);
        dueDead(-1, false);
        dueDead(Integer.MIN_VALUE, false);
        dueDead(Integer.MAX_VALUE, false);
    }

    private static void pulses() {
        Check.sentence("Promise 11: false, and nothing is changed: as gap(): PULSES would be above that");
        TripReckoner x = Cars.nearLimit();
        x.tells(100);
        x.drive(5, 5, 5);
        Check.due("100000005", x.dead(32000), false);
        Check.due("what was driven stays", x.mark(0, 0), 5);
        Check.due("99999805", x.dead(31999), true);
        Check.dueMark("the gap alone", x, 0, 0, 6399800, 0, 31999, 31999);
        Check.due("100000001", x.drive(196, 0, 1), false);
        Check.due("100000000", x.drive(195, 0, 1), true);
        Check.due("no dead more", x.dead(1), false);
        Check.due("nothing is changed", x.mark(0, 0), 195);
    }

    private static void refusedLeavesWhatIsKept() {
        Check.sentence("Promise 11: false, and nothing is changed");
        TripReckoner x = Cars.plain();
        x.tells(50);
        x.keep();
        x.tells(100);
        x.dead(0);
        x.dead(36001);
        x.tells(200);
        x.dead(1);
        Check.dueSpan("as at the latest KEEP", x, 4990, 5100);
        Check.due("no refill", x.count(0), 0);
    }

    private static void atTheBeginning() {
        Check.sentence("KEPT (at first: at the beginning)");
        TripReckoner untouched = new TripReckoner();
        untouched.tells(20);
        untouched.tells(200);
        untouched.dead(1);
        Check.dueSpan("0 and CAP of a new object", untouched, 0, 50000);
        Check.due("no refill of a new object", untouched.count(0), 0);
        TripReckoner x = Cars.plain();
        x.tells(0);
        Cars.fill(x, 31);
        x.tells(3);
        x.drive(9, 9999, 9);
        x.dead(1);
        Check.dueSpan("0 and CAP", x, 0, 25500);
        for (int what = 0; what <= 3; what++) {
            Check.due("count " + what, x.count(what), 0);
        }
        for (int k = 0; k < 4; k++) {
            Check.dueMark("the gap alone", x, k, 0, 60, 0, 10, 1);
        }
        Check.due("a step from 0", x.shown(), 1);
        Check.dueNone("no refill", () -> x.refill(0, false));
    }

    private static void theLatestKeep() {
        Check.sentence("as it was at the latest KEEP");
        TripReckoner x = Cars.plain();
        x.drive(1, 0, 1);
        x.keep();
        x.drive(10, 0, 1);
        x.keep();
        x.drive(100, 0, 1);
        x.dead(1);
        Check.dueMark("the latest", x, 0, 11, 71, 0, 10, 3);
    }

    private static void deadTwice() {
        Check.sentence("all this is as KEPT, then a GAP of SECONDS comes");
        TripReckoner x = Cars.plain();
        x.tells(50);
        x.keep();
        x.dead(3);
        Check.dueSpan("once", x, 4970, 5100);
        x.dead(5);
        Check.dueSpan("the gap of the first is no part", x, 4950, 5100);
        Check.dueMark("the gap of the first is no part", x, 0, 0, 300, 0, 50, 5);
        Check.due("a step from what was kept", x.shown(), 2);
    }

    private static void keepBehindDead() {
        Check.sentence("Promise 10: All is KEPT");
        TripReckoner x = Cars.plain();
        x.tells(50);
        x.keep();
        x.dead(3);
        x.keep();
        x.dead(5);
        Check.dueSpan("both gaps", x, 4920, 5100);
        Check.dueMark("both gaps", x, 0, 0, 480, 0, 80, 8);
    }

    private static void emptyAndFull() {
        Check.sentence("a GAP of SECONDS comes: the SPAN's least is less by that, 0 at least");
        TripReckoner x = Cars.plain();
        x.tells(255);
        x.keep();
        x.dead(2549);
        Check.dueSpan("10 is left", x, 10, 25500);
        x.dead(2550);
        Check.dueSpan("nothing is left", x, 0, 25500);
        x.dead(2551);
        Check.dueSpan("0 at least", x, 0, 25500);
        x.tells(0);
        x.drive(0, 100, 1);
        x.keep();
        x.tells(255);
        x.dead(36000);
        Check.dueSpan("empty", x, 0, 0);
        Check.due("a gap of nothing is no lie", x.count(2), 0);
    }

    private static void boundsOfNow() {
        Check.sentence("KEPT: all that SPAN, MARKS, .. tell: no BOUNDS");
        TripReckoner x = Cars.plain();
        x.bounds(1, 1, 1, 1);
        x.tells(50);
        x.keep();
        x.bounds(200, 100, 50, 1000);
        x.dead(2);
        Check.dueMark("the bounds of now", x, 0, 0, 400, 0, 200, 2);
        Check.dueSpan("the bounds of now", x, 4800, 5100);
        Check.due("LOW", x.range(true), 102);
        Check.due("HIGH", x.range(false), 4);
    }

    private static void tapeAndPlanStay() {
        Check.sentence("KEPT: all that SPAN, MARKS, .. tell: no tape, no PLAN");
        TripReckoner x = Cars.full(10000);
        Cars.lay(x, 1, 2, 3);
        x.keep();
        x.end(0);
        Check.due("a plan", Cars.planOf(x, 10, 3, 4), 12);
        x.dead(1);
        Check.due("the tape of now", x.count(4), 0);
        Check.due("the plan of now", x.buys(0), 4);
        Cars.lay(x, 5, 6, 7, 8, 9);
        x.dead(1);
        Check.due("the tape of now", x.count(4), 5);
    }

    private static void moreRefillsThanAreTold() {
        Check.sentence("REFILLS tell as it was at the latest KEEP: the latest 30");
        TripReckoner x = Cars.plain();
        Cars.fill(x, 31);
        x.keep();
        Cars.fill(x, 31);
        x.dead(1);
        Check.due("31 again", x.count(0), 31);
        Check.dueNone("the first is told no more", () -> x.refill(0, false));
        for (int k = 1; k < 31; k++) {
            Check.dueRefill("as kept", x, k, 100 * (50 + k) - 100, 100 * (51 + k));
        }
        Check.dueNone("the next is not there", () -> x.refill(31, false));
        TripReckoner y = Cars.plain();
        Cars.fill(y, 2);
        y.keep();
        Cars.fill(y, 30);
        Check.dueNone("told no more", () -> y.refill(1, false));
        y.dead(1);
        Check.dueRefill("told again", y, 0, 4900, 5100);
        Check.dueRefill("told again", y, 1, 5000, 5200);
        Check.dueNone("no third", () -> y.refill(2, false));
        Check.due("jumps as kept", y.count(3), 3);
    }

    private static void settlingEnded() {
        Check.sentence("REFILLS tell as it was at the latest KEEP: till the next REFILL, LOSS, LIE");
        TripReckoner ended = Cars.filled();
        ended.tells(50);
        ended.keep();
        ended.dead(1);
        ended.tells(55);
        Check.dueRefill("a loss that was kept", ended, 0, 5900, 10100);
        TripReckoner open = Cars.filled();
        open.keep();
        open.tells(50);
        open.dead(1);
        open.tells(105);
        Check.dueRefill("a loss that was taken back", open, 0, 6400, 10100);
        TripReckoner lied = Cars.filled();
        lied.keep();
        lied.drive(0, 10000, 1);
        lied.drive(0, 10000, 1);
        Check.due("a lie", lied.count(2), 1);
        lied.dead(1);
        lied.tells(105);
        Check.dueRefill("a lie that was taken back", lied, 0, 6400, 10100);
    }
}
