/** The edges of promises 1 a new object, 4 car, 5 bounds: the last number taken, the first one not. */
final class CarEdgesTest {
    public static void main(String[] args) {
        newCap();
        newMetres();
        newSlop();
        newBounds();
        newTape();
        cap();
        metres();
        slop();
        cornersOfACar();
        anewButFor();
        keptAnew();
        fast();
        thirst();
        low();
        high();
        lowAndHigh();
        Check.finish();
    }

    private static void newCap() {
        Check.sentence("Promise 1: CAP 50000");
        TripReckoner x = new TripReckoner();
        Check.dueSpan("at first 0 and CAP", x, 0, 50000);
        for (int i = 0; i < 5; i++) {
            x.drive(0, 10000, 1);
        }
        Check.due("50000 ml are no lie", x.count(2), 0);
        x.drive(0, 1, 1);
        Check.due("50001 ml are one", x.count(2), 1);
    }

    private static void newMetres() {
        Check.sentence("Promise 1: METRES 20");
        TripReckoner x = new TripReckoner();
        x.drive(4, 0, 1);
        Check.due("80 by 100", x.metres(0, true), 0);
        x.drive(1, 0, 1);
        Check.due("100 by 100", x.metres(0, true), 1);
    }

    private static void newSlop() {
        Check.sentence("Promise 1: SLOP 10");
        TripReckoner x = new TripReckoner();
        x.tells(10);
        Check.dueSpan("10 less 10 steps", x, 0, 50000 * 21 / 255);
        TripReckoner y = new TripReckoner();
        y.tells(11);
        Check.dueSpan("11 less 10 steps", y, 50000 / 255, 50000 * 22 / 255);
    }

    private static void newBounds() {
        Check.sentence("Promise 1: FAST 60, THIRST 10, LOW 40, HIGH 120");
        TripReckoner x = new TripReckoner();
        x.gap(1);
        Check.dueMark("FAST, THIRST", x, 0, 0, 60, 0, 10, 1);
        Check.due("LOW", x.range(true), 50000 / 40);
        TripReckoner y = Cars.plain();
        y.tells(12);
        Check.due("HIGH, 1200 by 120", y.range(false), 10);
        y.drive(0, 1, 1);
        Check.due("HIGH, 1199 by 120", y.range(false), 9);
    }

    private static void newTape() {
        Check.sentence("Promise 1: an empty tape");
        TripReckoner x = new TripReckoner();
        Check.due("count", x.count(4), 0);
        Check.due("end(1)", x.end(1), false);
        Check.due("end(0)", x.end(0), true);
        Check.due("no route", x.plan(), -2);
        Check.due("feed", x.feed(0, 0, 0, 0, 0), 20);
    }

    private static void cap() {
        Check.sentence("CAP millilitres (1000 to 120000)");
        TripReckoner x = new TripReckoner();
        Check.due("999", x.car(999, 20, 0), false);
        Check.dueSpan("999", x, 0, 50000);
        Check.due("1000", x.car(1000, 20, 0), true);
        Check.dueSpan("1000", x, 0, 1000);
        Check.due("120001", x.car(120001, 20, 0), false);
        Check.dueSpan("120001", x, 0, 1000);
        Check.due("120000", x.car(120000, 20, 0), true);
        Check.dueSpan("120000", x, 0, 120000);
        x.tells(255);
        Check.dueSpan("full", x, 120000, 120000);
    }

    private static void metres() {
        Check.sentence("METRES, how many make 100 PULSES of the wheel (1 to 1000)");
        TripReckoner x = new TripReckoner();
        Check.due("0", x.car(50000, 0, 0), false);
        x.drive(100, 0, 1);
        Check.due("0", x.metres(0, true), 20);
        Check.due("1", x.car(50000, 1, 0), true);
        x.drive(100, 0, 1);
        Check.due("1", x.metres(0, true), 1);
        Check.due("1001", x.car(50000, 1001, 0), false);
        Check.due("1001", x.metres(0, true), 1);
        Check.due("1000", x.car(50000, 1000, 0), true);
        x.drive(100, 0, 1);
        Check.due("1000", x.metres(0, true), 1000);
    }

    private static void slop() {
        Check.sentence("SLOP of the float (0 to 60)");
        TripReckoner x = new TripReckoner();
        Check.due("-1", x.car(25500, 20, -1), false);
        Check.dueSpan("-1", x, 0, 50000);
        Check.due("0", x.car(25500, 20, 0), true);
        x.tells(100);
        Check.dueSpan("0", x, 10000, 10100);
        Check.due("61", x.car(25500, 20, 61), false);
        Check.dueSpan("61", x, 10000, 10100);
        Check.due("60", x.car(25500, 20, 60), true);
        x.tells(100);
        Check.dueSpan("60", x, 4000, 16100);
    }

    private static void cornersOfACar() {
        Check.sentence("Promise 4: Another CAR: true");
        for (int cap : new int[] {1000, 120000}) {
            for (int metres : new int[] {1, 1000}) {
                for (int slop : new int[] {0, 60}) {
                    TripReckoner x = new TripReckoner();
                    Check.due(cap + " " + metres + " " + slop, x.car(cap, metres, slop), true);
                    x.tells(100);
                    Check.dueSpan("float", x, cap * (100 - slop) / 255, cap * (101 + slop) / 255);
                    x.drive(100, 0, 1);
                    Check.due("metres", x.metres(0, false), metres);
                }
            }
        }
    }

    private static void anewButFor() {
        Check.sentence("Promise 4: all begins anew, but for BOUNDS, the tape and the latest PLAN");
        Twins.Step left = x -> {
            x.bounds(7, 3, 10, 900);
            x.tells(255);
            Cars.planOf(x, 40, 5, 10);
            Cars.lay(x, 1, 2, 3, 4, 5);
        };
        Twins.alike("a used one and one that was not", left, x -> {
            x.tells(20);
            x.keep();
            Cars.fill(x, 35);
            x.drive(100000, 10000, 3600);
            x.drive(0, 10000, 1);
            x.gap(36000);
            x.set(2);
            x.car(30000, 50, 5);
        }, x -> x.car(30000, 50, 5));
        TripReckoner x = new TripReckoner();
        left.on(x);
        x.car(30000, 50, 5);
        Check.due("the tape", x.count(4), 5);
        Check.due("the plan", x.buys(0), 0);
        Check.due("LOW", x.range(true), 3000);
    }

    private static void keptAnew() {
        Check.sentence("Promise 4: all begins anew, what is KEPT, too");
        TripReckoner x = new TripReckoner();
        x.tells(20);
        x.tells(200);
        x.drive(7, 7, 7);
        x.keep();
        x.car(120000, 20, 10);
        x.dead(1);
        Check.dueSpan("the span of the new car", x, 0, 120000);
        Check.dueMark("the gap alone", x, 0, 0, 60, 0, 10, 1);
        Check.due("no refill", x.count(0), 0);
        Check.due("no jump", x.count(3), 0);
        Check.due("one step from 0", x.shown(), 1);
    }

    private static void fast() {
        Check.sentence("FAST, PULSES a second at most (1 to 200)");
        dueGap(0, 10, false, 60, 10);
        dueGap(1, 10, true, 1, 10);
        dueGap(200, 10, true, 200, 10);
        dueGap(201, 10, false, 60, 10);
    }

    private static void thirst() {
        Check.sentence("THIRST, millilitres a second at most (1 to 100)");
        dueGap(60, 0, false, 60, 10);
        dueGap(60, 1, true, 60, 1);
        dueGap(60, 100, true, 60, 100);
        dueGap(60, 101, false, 60, 10);
    }

    private static void dueGap(int fast, int thirst, boolean taken, long pulses, long fuel) {
        TripReckoner x = new TripReckoner();
        String what = "FAST " + fast + ", THIRST " + thirst;
        Check.due(what, x.bounds(fast, thirst, 40, 120), taken);
        x.gap(1);
        Check.dueMark(what, x, 0, 0, pulses, 0, fuel, 1);
    }

    /** 12000 at least, 12100 at most. */
    private static void dueRange(int low, int high, boolean taken, int surely, int atBest) {
        TripReckoner x = Cars.plain();
        x.tells(120);
        String what = "LOW " + low + ", HIGH " + high;
        Check.due(what, x.bounds(60, 10, low, high), taken);
        Check.due(what + " surely", x.range(false), surely);
        Check.due(what + " at best", x.range(true), atBest);
    }

    private static void low() {
        Check.sentence("1 <= LOW");
        dueRange(0, 120, false, 100, 302);
        dueRange(1, 120, true, 100, 12100);
        dueRange(2, 120, true, 100, 6050);
        dueRange(-1, 120, false, 100, 302);
    }

    private static void high() {
        Check.sentence("HIGH <= 1000");
        dueRange(40, 999, true, 12, 302);
        dueRange(40, 1000, true, 12, 302);
        dueRange(40, 1001, false, 100, 302);
        dueRange(1, 1, true, 12000, 12100);
        dueRange(0, 0, false, 100, 302);
    }

    private static void lowAndHigh() {
        Check.sentence("LOW <= HIGH");
        dueRange(60, 61, true, 196, 201);
        dueRange(60, 60, true, 200, 201);
        dueRange(61, 60, false, 100, 302);
        dueRange(1000, 1000, true, 12, 12);
        dueRange(1000, 999, false, 100, 302);
        dueRange(1001, 1001, false, 100, 302);
    }
}
