/** The edges of promises 6 drive, 7 gap, 12 span, and of the sum of PULSES. */
final class DriveEdgesTest {
    public static void main(String[] args) {
        pulses();
        fuel();
        seconds();
        cornersOfADrive();
        zeroAtLeast();
        greatestZeroAtLeast();
        lie();
        gapSeconds();
        gapZeroAtLeast();
        gapLeavesTheGreatest();
        sumByDrives();
        sumByGaps();
        sumByDeads();
        sumIsTakenBackByNothing();
        sumAnewWithACar();
        refusedPulsesAreNotSummed();
        Check.finish();
    }

    private static void dueDrive(int pulses, int fuel, int seconds, boolean taken) {
        TripReckoner x = new TripReckoner();
        String what = "drive " + pulses + " " + fuel + " " + seconds;
        Check.due(what, x.drive(pulses, fuel, seconds), taken);
        for (int k = 0; k < 4; k++) {
            if (taken) {
                Check.dueMark(what, x, k, pulses, pulses, fuel, fuel, seconds);
            } else {
                Check.dueMark(what, x, k, 0, 0, 0, 0, 0);
            }
        }
        Check.dueSpan(what, x, 0, taken ? 50000 - fuel : 50000);
        Check.due(what + ": shown", x.shown(), taken ? 1 : 0);
    }

    private static void pulses() {
        Check.sentence("Promise 6: pulses are not 0 to 100000");
        dueDrive(-1, 5, 5, false);
        dueDrive(0, 5, 5, true);
        dueDrive(100000, 5, 5, true);
        dueDrive(100001, 5, 5, false);
    }

    private static void fuel() {
        Check.sentence("Promise 6: fuel not 0 to 10000");
        dueDrive(5, -1, 5, false);
        dueDrive(5, 0, 5, true);
        dueDrive(5, 10000, 5, true);
        dueDrive(5, 10001, 5, false);
    }

    private static void seconds() {
        Check.sentence("Promise 6: seconds not 1 to 3600");
        dueDrive(5, 5, 0, false);
        dueDrive(5, 5, 1, true);
        dueDrive(5, 5, 3600, true);
        dueDrive(5, 5, 3601, false);
    }

    private static void cornersOfADrive() {
        Check.sentence("Promise 6: DRIVEN: true");
        dueDrive(0, 0, 1, true);
        dueDrive(100000, 10000, 3600, true);
        dueDrive(0, 10000, 3600, true);
        dueDrive(100000, 0, 1, true);
        Check.sentence("Promise 6: false, if one of them is not");
        dueDrive(-1, -1, 0, false);
        dueDrive(100001, 10001, 3601, false);
        dueDrive(Integer.MIN_VALUE, Integer.MIN_VALUE, Integer.MIN_VALUE, false);
        dueDrive(Integer.MAX_VALUE, Integer.MAX_VALUE, Integer.MAX_VALUE, false);
    }

    /** 5000 to 5100 in the tank. */
    private static TripReckoner fiveLitres() {
        TripReckoner x = Cars.plain();
        x.tells(50);
        return x;
    }

    private static void dueBurnt(int fuel, int least, int greatest, int lies) {
        TripReckoner x = fiveLitres();
        x.drive(0, fuel, 1);
        Check.dueSpan("5000 to 5100 less " + fuel, x, least, greatest);
        Check.due("lies, less " + fuel, x.count(2), lies);
    }

    private static void zeroAtLeast() {
        Check.sentence("both ends of the SPAN are less by FUEL, 0 at least");
        dueBurnt(0, 5000, 5100, 0);
        dueBurnt(1, 4999, 5099, 0);
        dueBurnt(4999, 1, 101, 0);
        dueBurnt(5000, 0, 100, 0);
        dueBurnt(5001, 0, 99, 0);
    }

    private static void greatestZeroAtLeast() {
        Check.sentence("both ends of the SPAN, 0 at least");
        dueBurnt(5099, 0, 1, 0);
        dueBurnt(5100, 0, 0, 0);
        dueBurnt(5101, 0, 0, 1);
        dueBurnt(10000, 0, 0, 1);
    }

    private static void lie() {
        Check.sentence("if FUEL is above the greatest, it is a LIE");
        TripReckoner x = fiveLitres();
        x.drive(3, 5100, 4);
        Check.due("as much as the greatest", x.count(2), 0);
        x.drive(3, 0, 4);
        Check.due("0 of 0", x.count(2), 0);
        x.drive(3, 1, 4);
        Check.due("1 of 0", x.count(2), 1);
        x.drive(3, 1, 4);
        Check.due("once more", x.count(2), 2);
        Check.dueMark("all is driven", x, 0, 12, 12, 5102, 5102, 16);
        Check.dueSpan("empty", x, 0, 0);
        TripReckoner y = Cars.plain();
        y.drive(0, 10000, 1);
        y.drive(0, 10000, 1);
        y.drive(0, 5500, 1);
        Check.due("CAP", y.count(2), 0);
        y.gap(36000);
        Check.due("a gap of an empty tank is no lie", y.count(2), 0);
    }

    private static void dueGap(int seconds, boolean taken) {
        TripReckoner x = new TripReckoner();
        Check.due("gap " + seconds, x.gap(seconds), taken);
        long s = taken ? seconds : 0;
        for (int k = 0; k < 4; k++) {
            Check.dueMark("gap " + seconds, x, k, 0, 60 * s, 0, 10 * s, s);
        }
        Check.due("gap " + seconds + ": shown", x.shown(), taken ? 1 : 0);
    }

    private static void gapSeconds() {
        Check.sentence("Promise 7: false, if seconds are not 1 to 36000");
        dueGap(0, false);
        dueGap(1, true);
        dueGap(3601, true);
        dueGap(36000, true);
        dueGap(36001, false);
        dueGap(-1, false);
        dueGap(Integer.MIN_VALUE, false);
        dueGap(Integer.MAX_VALUE, false);
    }

    private static void gapZeroAtLeast() {
        Check.sentence("A GAP: the SPAN's least is less by that, 0 at least");
        int[][] due = {{1, 4999, 1}, {1, 5000, 0}, {1, 5001, 0}, {10, 499, 10}, {10, 500, 0}, {10, 501, 0},
            {100, 49, 100}, {100, 50, 0}, {100, 36000, 0}};
        for (int[] d : due) {
            TripReckoner x = fiveLitres();
            x.bounds(1, d[0], 1, 1);
            x.gap(d[1]);
            Check.dueSpan("THIRST " + d[0] + ", " + d[1] + " seconds", x, d[2], 5100);
        }
    }

    private static void gapLeavesTheGreatest() {
        Check.sentence("A GAP: PULSES may be 0 to FAST a second more, FUEL used 0 to THIRST a second");
        TripReckoner x = new TripReckoner();
        x.bounds(200, 100, 1, 1);
        x.gap(36000);
        Check.dueMark("the most of a gap", x, 0, 0, 7200000, 0, 3600000, 36000);
        Check.dueSpan("CAP is left", x, 0, 50000);
        Check.due("no lie", x.count(2), 0);
        TripReckoner y = new TripReckoner();
        y.bounds(1, 1, 1, 1);
        y.gap(1);
        Check.dueMark("the least of a gap", y, 0, 0, 1, 0, 1, 1);
    }

    private static void sumByDrives() {
        Check.sentence("Promise 6: PULSES, at most, since the beginning would be above 100000000");
        TripReckoner x = Cars.nearLimit();
        for (int i = 0; i < 63; i++) {
            Check.due("drive " + i, x.drive(100000, 0, 1), true);
        }
        // 99900000 by now.
        Check.due("100000000 and no more", x.drive(99999, 0, 1), true);
        Check.due("100000001", x.drive(2, 0, 1), false);
        Check.due("100000000", x.drive(1, 0, 1), true);
        Check.due("one above", x.drive(1, 0, 1), false);
        Check.due("none above", x.drive(0, 7, 9), true);
        Check.dueMark("all that was taken", x, 0, 6400000, 100000000, 7, 13 * 36000 + 7, 13 * 36000 + 63 + 2 + 9);
        TripReckoner y = Cars.nearLimit();
        y.gap(31500);
        Check.due("the longest drive to the limit", y.drive(100000, 0, 1), true);
        Check.due("then none", y.drive(1, 0, 1), false);
        TripReckoner z = Cars.nearLimit();
        z.gap(31500);
        z.drive(1, 0, 1);
        Check.due("the longest drive one above it", z.drive(100000, 0, 1), false);
        Check.due("one less", z.drive(99999, 0, 1), true);
    }

    private static void sumByGaps() {
        Check.sentence("Promise 7: or PULSES would be above that");
        TripReckoner x = Cars.nearLimit();
        Check.due("100000200", x.gap(32001), false);
        Check.due("100000000", x.gap(32000), true);
        Check.due("the sum", x.mark(0, 1), 100000000);
        Check.due("a second more", x.gap(1), false);
        x.bounds(1, 1, 1, 1);
        Check.due("a pulse more", x.gap(1), false);
        TripReckoner y = Cars.nearLimit();
        y.gap(31999);
        y.drive(198, 0, 1);
        // 99999998 by now.
        y.bounds(3, 1, 1, 1);
        Check.due("100000001", y.gap(1), false);
        y.bounds(2, 1, 1, 1);
        Check.due("100000000 by the bounds of now", y.gap(1), true);
        Check.due("the sum", y.mark(0, 1), 100000000);
    }

    private static void sumByDeads() {
        Check.sentence("Promise 6: also those that a dead BATTERY took back");
        TripReckoner x = new TripReckoner();
        x.bounds(200, 1, 1, 1);
        for (int i = 0; i < 63; i++) {
            x.drive(100000, 0, 1);
        }
        x.drive(99999, 0, 1);
        for (int i = 0; i < 13; i++) {
            Check.due("dead " + i, x.dead(36000), true);
        }
        // 6399999 that were taken back and 93600000.
        Check.due("pulses of the latest gap alone", x.mark(0, 1), 7200000);
        Check.due("one second is too much", x.dead(1), false);
        Check.due("two pulses are too many", x.drive(2, 0, 1), false);
        Check.due("one is not", x.drive(1, 0, 1), true);
        Check.due("then none", x.drive(1, 0, 1), false);
        x.bounds(1, 1, 1, 1);
        Check.due("nor a gap of one", x.gap(1), false);
        Check.due("nor a dead battery", x.dead(1), false);
    }

    private static void sumIsTakenBackByNothing() {
        Check.sentence("Promise 6: since the beginning");
        TripReckoner x = Cars.nearLimit();
        x.gap(32000);
        for (int k = 0; k < 4; k++) {
            x.set(k);
        }
        x.tells(0);
        x.tells(255);
        x.keep();
        x.plan();
        Check.due("a refill", x.count(0), 1);
        Check.due("no pulse more", x.drive(1, 0, 1), false);
        Check.due("no gap more", x.gap(1), false);
    }

    private static void sumAnewWithACar() {
        Check.sentence("Promise 4: all begins anew");
        TripReckoner x = Cars.nearLimit();
        x.gap(32000);
        Check.due("no car: no pulse", x.car(999, 20, 10) || x.drive(1, 0, 1), false);
        x.car(50000, 20, 10);
        for (int i = 0; i < 13; i++) {
            Check.due("gap " + i, x.gap(36000), true);
        }
        Check.due("above the limit", x.gap(32001), false);
        Check.due("the limit", x.gap(32000), true);
        Check.due("above it", x.drive(1, 0, 1), false);
    }

    private static void refusedPulsesAreNotSummed() {
        Check.sentence("Promise 6: false: no part of the sum");
        TripReckoner x = Cars.nearLimit();
        for (int i = 0; i < 40; i++) {
            x.drive(100000, 10001, 1);
            x.drive(100000, 0, 3601);
            x.drive(-100000, 0, 1);
            x.gap(36000);
            x.gap(36001);
            x.dead(32001);
        }
        Check.due("the limit", x.gap(32000), true);
        Check.due("above it", x.drive(1, 0, 1), false);
    }
}
