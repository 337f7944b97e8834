/** Promises 1 a new object, 4 car. */
final class CarTest {
    public static void main(String[] args) {
        newObject();
        anew();
        keptAnew();
        pulsesAnew();
        untouched();
        Check.finish();
    }

    private static void newObject() {
        TripReckoner x = new TripReckoner();
        Check.dueSpan("new", x, 0, 50000);
        Check.due("LOW 40", x.range(true), 1250);
        Check.due("shown", x.shown(), 0);
        for (int what = 0; what <= 4; what++) {
            Check.due("count(" + what + ")", x.count(what), 0);
        }
        for (int k = 0; k < 4; k++) {
            Check.dueMark("new", x, k, 0, 0, 0, 0, 0);
        }
        x.gap(1);
        Check.dueMark("FAST 60, THIRST 10", x, 0, 0, 60, 0, 10, 1);
        Check.due("METRES 20", x.metres(0, true), 12);
        x.tells(255);
        Check.dueSpan("SLOP 10", x, 50000 * 245 / 255, 50000);
        Check.due("HIGH 120", x.range(false), 50000 * 245 / 255 / 120);
    }

    private static void anew() {
        TripReckoner x = new TripReckoner();
        x.tells(50);
        x.drive(100, 200, 30);
        x.tells(250);
        x.tells(10);
        x.drive(0, 10000, 1);
        x.keep();
        Check.due("a refill", x.count(0), 1);
        Check.due("a loss", x.count(1), 1);
        Check.due("a lie", x.count(2), 1);
        Check.due("two jumps", x.count(3), 2);
        Check.due("the same car is another car", x.car(50000, 20, 10), true);
        for (int what = 0; what <= 3; what++) {
            Check.due("count(" + what + ") anew", x.count(what), 0);
        }
        Check.due("shown anew", x.shown(), 0);
        Check.dueSpan("anew", x, 0, 50000);
        for (int k = 0; k < 4; k++) {
            Check.dueMark("anew", x, k, 0, 0, 0, 0, 0);
        }
        Check.dueNone("refill anew", () -> x.refill(0, true));
    }

    private static void keptAnew() {
        TripReckoner x = new TripReckoner();
        x.drive(100, 200, 30);
        x.tells(100);
        x.keep();
        x.car(60000, 20, 10);
        x.tells(100);
        x.dead(1);
        Check.dueSpan("kept anew", x, 0, 60000);
        Check.dueMark("kept anew", x, 0, 0, 60, 0, 10, 1);
        // A refill of the car before must not be settled by a float of this one.
        x.tells(5);
        x.tells(200);
        x.car(60000, 20, 10);
        x.tells(200);
        Check.due("no refill", x.count(0), 0);
    }

    private static void pulsesAnew() {
        TripReckoner x = new TripReckoner();
        x.bounds(200, 1, 1, 1);
        for (int i = 0; i < 13; i++) {
            x.gap(36000);
        }
        Check.due("no more pulses", x.gap(36000), false);
        x.car(50000, 20, 10);
        for (int i = 0; i < 13; i++) {
            Check.due("the pulses begin anew", x.gap(36000), true);
        }
        Check.due("up to the limit", x.gap(32000), true);
        Check.due("not beyond it", x.drive(1, 0, 1), false);
    }

    private static void untouched() {
        TripReckoner x = new TripReckoner();
        x.bounds(7, 3, 10, 1000);
        x.tells(255);
        x.feed(0x28050A00, 0, 0, 0, 0);
        x.end(3);
        Check.due("a plan", x.plan(), 10);
        x.feed(1, 2, 3, 4, 5);
        x.car(1000, 20, 10);
        Check.due("the tape stays", x.count(4), 20);
        Check.due("the plan stays", x.buys(0), 2);
        x.gap(2);
        Check.dueMark("the bounds stay", x, 0, 0, 14, 0, 6, 2);
    }
}
