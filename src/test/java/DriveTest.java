/** Promises 6 drive, 7 gap, 8 tells, 12 span, 16 range, 17 shown, and what 21 counts of them. */
final class DriveTest {
    public static void main(String[] args) {
        driveEdges();
        drivenSpan();
        lies();
        gaps();
        pulsesLimit();
        floats();
        lossToTheGround();
        touching();
        ranges();
        shownSteps();
        jumps();
        Check.finish();
    }

    private static void driveEdges() {
        TripReckoner x = new TripReckoner();
        int[][] wrong = {{-1, 0, 1}, {100001, 0, 1}, {0, -1, 1}, {0, 10001, 1}, {0, 0, 0}, {0, 0, 3601},
            {0, 0, -1}, {Integer.MIN_VALUE, 0, 1}, {0, Integer.MAX_VALUE, 1}, {0, 0, Integer.MAX_VALUE}};
        for (int[] w : wrong) {
            Check.due("drive " + w[0] + " " + w[1] + " " + w[2], x.drive(w[0], w[1], w[2]), false);
        }
        Check.dueMark("unchanged", x, 0, 0, 0, 0, 0, 0);
        Check.due("shown unchanged", x.shown(), 0);
        Check.due("least drive", x.drive(0, 0, 1), true);
        Check.due("greatest drive", x.drive(100000, 10000, 3600), true);
        Check.dueMark("both", x, 0, 100000, 100000, 10000, 10000, 3601);
    }

    private static void drivenSpan() {
        TripReckoner x = new TripReckoner();
        x.tells(128);
        Check.dueSpan("float", x, 23137, 27254);
        x.drive(1, 3137, 1);
        Check.dueSpan("less by fuel", x, 20000, 24117);
        x.drive(1, 10000, 1);
        x.drive(1, 10000, 1);
        Check.dueSpan("0 at least", x, 0, 4117);
        x.drive(1, 4117, 1);
        Check.dueSpan("all is used", x, 0, 0);
        Check.due("that is no lie", x.count(2), 0);
    }

    private static void lies() {
        TripReckoner x = new TripReckoner();
        x.car(1000, 20, 0);
        x.drive(1, 1000, 1);
        Check.due("as much as there was", x.count(2), 0);
        x.drive(1, 0, 1);
        Check.due("nothing of nothing", x.count(2), 0);
        x.drive(1, 1, 1);
        Check.due("one more", x.count(2), 1);
        Check.dueSpan("a lie", x, 0, 0);
        Check.dueMark("a lie is driven, too", x, 0, 3, 3, 1001, 1001, 3);
    }

    private static void gaps() {
        TripReckoner x = new TripReckoner();
        x.tells(128);
        Check.due("gap(0)", x.gap(0), false);
        Check.due("gap(-1)", x.gap(-1), false);
        Check.due("gap(36001)", x.gap(36001), false);
        Check.due("gap(MAX)", x.gap(Integer.MAX_VALUE), false);
        Check.due("gap(MIN)", x.gap(Integer.MIN_VALUE), false);
        Check.due("a false gap shows nothing", x.shown(), 1);
        Check.due("gap(1)", x.gap(1), true);
        Check.dueSpan("the least alone", x, 23127, 27254);
        Check.dueMark("gap(1)", x, 2, 0, 60, 0, 10, 1);
        Check.due("gap(36000)", x.gap(36000), true);
        Check.dueSpan("0 at least", x, 0, 27254);
        Check.dueMark("gap(36000)", x, 2, 0, 60 * 36001, 0, 360010, 36001);
        Check.due("a gap is no lie", x.count(2), 0);
    }

    private static void pulsesLimit() {
        TripReckoner x = new TripReckoner();
        x.bounds(200, 1, 1, 1);
        for (int i = 0; i < 13; i++) {
            Check.due("gap " + i, x.gap(36000), true);
        }
        // 93600000 by now.
        Check.due("100000200", x.gap(32001), false);
        Check.due("gap refuses", x.mark(0, 1), 93600000);
        Check.due("99999800", x.gap(31999), true);
        Check.due("100000001", x.drive(201, 5, 1), false);
        Check.dueMark("drive refuses", x, 0, 0, 99999800, 0, 13 * 36000 + 31999);
        Check.due("100000000", x.drive(200, 5, 1), true);
        Check.due("one more pulse", x.drive(1, 0, 1), false);
        Check.due("no more pulse", x.drive(0, 0, 1), true);
        Check.due("no more gap", x.gap(1), false);
        Check.due("no more dead", x.dead(1), false);
        x.set(0);
        Check.due("set takes none back", x.drive(1, 0, 1), false);
    }

    private static void floats() {
        TripReckoner x = new TripReckoner();
        Check.due("tells(-1)", x.tells(-1), TripReckoner.NONE);
        Check.due("tells(256)", x.tells(256), TripReckoner.NONE);
        Check.due("tells(MIN)", x.tells(Integer.MIN_VALUE), TripReckoner.NONE);
        Check.due("tells(MAX)", x.tells(Integer.MAX_VALUE), TripReckoner.NONE);
        Check.dueSpan("unchanged", x, 0, 50000);
        Check.due("shown unchanged", x.shown(), 0);
        Check.due("tells(5)", x.tells(5), 0);
        Check.dueSpan("0 at least", x, 0, 50000 * 16 / 255);
        x.car(120000, 20, 60);
        Check.due("tells(250)", x.tells(250), 0);
        Check.dueSpan("CAP at most", x, 120000 * 190 / 255, 120000);
        x.drive(0, 10000, 1);
        Check.due("tells(180)", x.tells(180), 0);
        Check.dueSpan("what is common", x, 79411, 110000);
    }

    private static void lossToTheGround() {
        TripReckoner x = new TripReckoner();
        x.tells(128);
        Check.due("a loss", x.tells(3), 2);
        Check.dueSpan("0 at least behind a loss, too", x, 0, 50000 * 14 / 255);
    }

    private static void touching() {
        TripReckoner x = new TripReckoner();
        x.car(25500, 20, 0);
        x.tells(100);
        Check.dueSpan("100 a step", x, 10000, 10100);
        Check.due("the end in common", x.tells(101), 0);
        Check.dueSpan("one number", x, 10100, 10100);
        Check.due("the end below in common", x.tells(100), 0);
        Check.dueSpan("one number still", x, 10100, 10100);
        Check.due("below", x.tells(99), 2);
        Check.dueSpan("a loss", x, 9900, 10000);
        x.drive(0, 1, 1);
        Check.due("above by one", x.tells(100), 1);
        Check.dueSpan("a refill", x, 10000, 10100);
        Check.due("a refill", x.count(0), 1);
        Check.due("a loss", x.count(1), 1);
    }

    private static void ranges() {
        TripReckoner x = new TripReckoner();
        x.car(25500, 20, 0);
        x.bounds(1, 1, 101, 1000);
        x.tells(99);
        x.drive(0, 1, 1);
        Check.dueSpan("span", x, 9899, 9999);
        Check.due("surely, cut", x.range(false), 9);
        Check.due("at best", x.range(true), 99);
        x.bounds(1, 1, 102, 9899 / 11);
        Check.due("surely", x.range(false), 11);
        Check.due("at best, cut", x.range(true), 98);
        x.drive(0, 10000, 1);
        Check.due("nothing", x.range(true), 0);
    }

    private static void shownSteps() {
        TripReckoner x = new TripReckoner();
        x.car(10000, 20, 0);
        for (int i = 1; i <= 5; i++) {
            x.drive(0, 0, 1);
            Check.due("up by 1", x.shown(), i);
        }
        x.drive(0, 0, 1);
        Check.due("it stays", x.shown(), 5);
        x.drive(0, 1, 1);
        // 0 and 9999: half of it is 4999.
        Check.due("cut", x.shown(), 4);
        x.gap(1);
        Check.due("it stays behind a gap", x.shown(), 4);
        x.tells(0);
        Check.due("down by 1 behind a float", x.shown(), 3);
        x.gap(1);
        Check.due("down by 1 behind a gap", x.shown(), 2);
        x.set(0);
        x.keep();
        x.bounds(1, 1, 1, 1);
        x.feed(0, 0, 0, 0, 0);
        x.plan();
        Check.due("nothing else moves it", x.shown(), 2);
        Check.due("steps are no jumps", x.count(3), 0);
    }

    private static void jumps() {
        TripReckoner x = new TripReckoner();
        x.car(25500, 20, 0);
        x.tells(0);
        Check.due("0 stays", x.shown(), 0);
        Check.due("a refill to 150 ml", x.tells(2), 1);
        Check.due("shown is 0 still", x.shown(), 0);
        Check.due("no jump then", x.count(3), 0);
        x.tells(20);
        Check.due("shown 2", x.shown(), 2);
        Check.due("a jump", x.count(3), 1);
        x.tells(30);
        Check.due("shown 3", x.shown(), 3);
        Check.due("by 1 is a jump, too", x.count(3), 2);
        x.tells(32);
        Check.due("no jump", x.count(3), 2);
        x.tells(11);
        Check.due("a loss", x.count(1), 1);
        Check.due("shown 1", x.shown(), 1);
        Check.due("a loss jumps", x.count(3), 3);
    }
}
