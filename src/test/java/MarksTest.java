/** Promises 9 set, 13 mark, 14 metres, 15 average. */
final class MarksTest {
    public static void main(String[] args) {
        sets();
        refillSets();
        wholeMetres();
        fractions();
        Check.finish();
    }

    private static void sets() {
        TripReckoner x = new TripReckoner();
        x.drive(10, 20, 30);
        Check.due("set(-1)", x.set(-1), false);
        Check.due("set(4)", x.set(4), false);
        Check.due("set(MAX)", x.set(Integer.MAX_VALUE), false);
        for (int k = 0; k < 4; k++) {
            Check.dueMark("unset", x, k, 10, 10, 20, 20, 30);
        }
        for (int k = 0; k < 4; k++) {
            Check.due("set(" + k + ")", x.set(k), true);
            x.drive(1, 2, 3);
            x.gap(1);
        }
        for (int k = 0; k < 4; k++) {
            int n = 4 - k;
            Check.dueMark("set", x, k, n, 61 * n, 2 * n, 12 * n, 4 * n);
        }
    }

    private static void refillSets() {
        TripReckoner x = new TripReckoner();
        x.tells(50);
        x.drive(10, 20, 30);
        x.tells(52);
        Check.due("no refill sets nothing", x.mark(3, 0), 10);
        Check.due("a refill", x.tells(200), 1);
        Check.dueMark("the refill sets it", x, 3, 0, 0, 0, 0, 0);
        for (int k = 0; k < 3; k++) {
            Check.dueMark("it sets no other", x, k, 10, 10, 20, 20, 30);
        }
        x.drive(1, 2, 3);
        Check.due("a loss", x.tells(100), 2);
        Check.dueMark("a loss does not set it", x, 3, 1, 1, 2, 2, 3);
    }

    private static void wholeMetres() {
        TripReckoner x = new TripReckoner();
        x.car(50000, 33, 0);
        x.drive(10, 0, 1);
        Check.due("330 by 100, cut", x.metres(0, false), 3);
        x.bounds(200, 1, 1, 1);
        x.gap(1);
        Check.due("at least", x.metres(0, false), 3);
        Check.due("at most", x.metres(0, true), 69);
        x.car(50000, 1000, 0);
        for (int i = 0; i < 13; i++) {
            x.gap(36000);
        }
        Check.due("beyond an int", x.metres(1, true), 936000000L);
        x.gap(32000);
        x.set(1);
        Check.due("metres of nothing", x.metres(1, true), 0);
        Check.due("the most there may be", x.metres(0, true), 1000000000L);
    }

    private static void fractions() {
        TripReckoner x = new TripReckoner();
        x.car(50000, 25, 15);
        x.drive(15646, 10000, 73);
        x.drive(0, 178, 1);
        Check.dueAverage("no whole metres", x, false, 20356000, 7823);
        Check.dueAverage("without a gap both are one", x, true, 20356000, 7823);
        x.set(0);
        x.drive(100, 0, 1);
        Check.dueAverage("0 is 0 by 1", x, false, 0, 1);
        Check.dueAverage("0 is 0 by 1", x, true, 0, 1);
        x.set(0);
        // 100 pulses are 25 metres, a kilometre 4000 pulses.
        x.drive(4000, 90, 60);
        Check.dueAverage("a whole number", x, false, 90, 1);
        x.gap(10);
        // 600 pulses and 100 ml more at most.
        Check.dueAverage("least", x, false, 1800, 23);
        Check.dueAverage("greatest", x, true, 190, 1);
        x.car(50000, 1000, 15);
        x.bounds(1, 100, 1, 1);
        x.drive(3, 1, 1);
        for (int i = 0; i < 200; i++) {
            x.gap(36000);
        }
        // 720000001 ml by 30 metres.
        Check.dueAverage("great numbers", x, true, 72000000100L, 3);
        // 1 ml by 72000030 metres.
        Check.dueAverage("small ones", x, false, 100, 7200003);
    }
}
