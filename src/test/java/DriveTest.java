/** Promises 6 drive, 7 gap, 8 tells, 12 span, 16 range, 17 shown, and what 21 counts of them. */
final class DriveTest {
    public static void main(String[] args) {
        drivenSpan();
        gaps();
        ranges();
        shownSteps();
        Check.finish();
    }

    private static void drivenSpan() {
        TripReckoner x = new TripReckoner();
        x.tells(128);
        Check.dueSpan("float", x, 23137, 27254);
        x.drive(1, 3137, 1);
        Check.dueSpan("less by fuel", x, 20000, 24117);
        x.drive(1, 10000, 1);
        x.drive(1, 10000, 1);
        Check.dueSpan("0 at least", x, 0, 4117);
        x.drive(1, 4117, 1);
        Check.dueSpan("all is used", x, 0, 0);
        Check.due("that is no lie", x.count(2), 0);
    }

    private static void gaps() {
        TripReckoner x = new TripReckoner();
        x.tells(128);
        Check.due("gap(1)", x.gap(1), true);
        Check.dueSpan("the least alone", x, 23127, 27254);
        Check.dueMark("gap(1)", x, 2, 0, 60, 0, 10, 1);
        Check.due("gap(36000)", x.gap(36000), true);
        Check.dueSpan("0 at least", x, 0, 27254);
        Check.dueMark("gap(36000)", x, 2, 0, 60 * 36001, 0, 360010, 36001);
        Check.due("a gap is no lie", x.count(2), 0);
    }

    private static void ranges() {
        TripReckoner x = new TripReckoner();
        x.car(25500, 20, 0);
        x.bounds(1, 1, 101, 1000);
        x.tells(99);
        x.drive(0, 1, 1);
        Check.dueSpan("span", x, 9899, 9999);
        Check.due("surely, cut", x.range(false), 9);
        Check.due("at best", x.range(true), 99);
        x.bounds(1, 1, 102, 9899 / 11);
        Check.due("surely", x.range(false), 11);
        Check.due("at best, cut", x.range(true), 98);
        x.drive(0, 10000, 1);
        Check.due("nothing", x.range(true), 0);
    }

    private static void shownSteps() {
        TripReckoner x = new TripReckoner();
        x.car(10000, 20, 0);
        for (int i = 1; i <= 5; i++) {
            x.drive(0, 0, 1);
            Check.due("up by 1", x.shown(), i);
        }
        x.drive(0, 0, 1);
        Check.due("it stays", x.shown(), 5);
        x.drive(0, 1, 1);
        // 0 and 9999: half of it is 4999.
        Check.due("cut", x.shown(), 4);
        x.gap(1);
        Check.due("it stays behind a gap", x.shown(), 4);
        x.tells(0);
        Check.due("down by 1 behind a float", x.shown(), 3);
        x.gap(1);
        Check.due("down by 1 behind a gap", x.shown(), 2);
        x.set(0);
        x.keep();
        x.bounds(1, 1, 1, 1);
        x.feed(0, 0, 0, 0, 0);
        x.plan();
        Check.due("nothing else moves it", x.shown(), 2);
        Check.due("steps are no jumps", x.count(3), 0);
    }
}
