/** The edges of promises 9 set, 13 mark, 14 metres, 15 average. */
final class MarkEdgesTest {
    private static final int[] NO_MARKS = {-1, 4, Integer.MIN_VALUE, Integer.MAX_VALUE};

    public static void main(String[] args) {
        setNumbers();
        markNumbers();
        metresNumbers();
        averageNumbers();
        atLeastAndAtMost();
        wholeMetres();
        mostMetres();
        noKilometresAtMost();
        noKilometresAtLeast();
        noKilometresBehindSet();
        zeroByOne();
        lowerIsOneOrMore();
        noDivisorInCommon();
        greatNumbers();
        setByEachRefill();
        Check.finish();
    }

    private static void setNumbers() {
        Check.sentence("Promise 9: MARK k (0 to 3) is SET: true; false: no such MARK");
        TripReckoner x = new TripReckoner();
        x.drive(10, 20, 30);
        for (int k : NO_MARKS) {
            Check.due("set(" + k + ")", x.set(k), false);
        }
        for (int k = 0; k < 4; k++) {
            Check.dueMark("as it was", x, k, 10, 10, 20, 20, 30);
        }
        for (int k = 0; k < 4; k++) {
            Check.due("set(" + k + ")", x.set(k), true);
            for (int other = 0; other < 4; other++) {
                Check.due("set(" + k + "), mark " + other, x.mark(other, 4), other <= k ? 0 : 30);
            }
            Check.dueMark("set", x, k, 0, 0, 0, 0, 0);
        }
        Check.due("set twice", x.set(2), true);
    }

    private static void markNumbers() {
        Check.sentence("Promise 13: NoSuchElementException: no such MARK, or another what");
        TripReckoner x = new TripReckoner();
        x.drive(1, 2, 3);
        x.gap(1);
        for (int k : NO_MARKS) {
            for (int what = 0; what <= 4; what++) {
                int w = what;
                Check.dueNone("mark(" + k + ", " + w + ")", () -> x.mark(k, w));
            }
        }
        int[] others = {-1, 5, Integer.MIN_VALUE, Integer.MAX_VALUE};
        for (int k = 0; k < 4; k++) {
            int mark = k;
            for (int what : others) {
                Check.dueNone("mark(" + k + ", " + what + ")", () -> x.mark(mark, what));
            }
            Check.dueMark("each what", x, k, 1, 61, 2, 12, 4);
        }
        Check.dueNone("both", () -> x.mark(4, 5));
        Check.dueNone("both", () -> x.mark(-1, -1));
    }

    private static void metresNumbers() {
        Check.sentence("Promise 14: NoSuchElementException: no such MARK");
        TripReckoner x = new TripReckoner();
        x.drive(500, 2, 3);
        for (int k : NO_MARKS) {
            Check.dueNone("metres(" + k + ", false)", () -> x.metres(k, false));
            Check.dueNone("metres(" + k + ", true)", () -> x.metres(k, true));
        }
        for (int k = 0; k < 4; k++) {
            Check.due("metres(" + k + ", false)", x.metres(k, false), 100);
            Check.due("metres(" + k + ", true)", x.metres(k, true), 100);
        }
    }

    private static void averageNumbers() {
        Check.sentence("Promise 15: NoSuchElementException: no such MARK, another what");
        TripReckoner x = new TripReckoner();
        x.drive(5000, 70, 3);
        int[] others = {-1, 2, Integer.MIN_VALUE, Integer.MAX_VALUE};
        for (boolean greatest : new boolean[] {false, true}) {
            for (int k : NO_MARKS) {
                Check.dueNone("average(" + k + ")", () -> x.average(k, greatest, 0));
                Check.dueNone("average(" + k + ")", () -> x.average(k, greatest, 1));
            }
            for (int what : others) {
                Check.dueNone("average what " + what, () -> x.average(0, greatest, what));
                Check.dueNone("average what " + what, () -> x.average(3, greatest, what));
            }
            for (int k = 0; k < 4; k++) {
                Check.due("average(" + k + ") upper", x.average(k, greatest, 0), 70);
                Check.due("average(" + k + ") lower", x.average(k, greatest, 1), 1);
            }
        }
    }

    private static void atLeastAndAtMost() {
        Check.sentence("PULSES and FUEL, at least and at most (GAPS), SECONDS (GAPS, too)");
        TripReckoner x = new TripReckoner();
        x.bounds(200, 100, 1, 1000);
        x.drive(100000, 10000, 3600);
        Check.dueMark("without a gap they are like", x, 0, 100000, 100000, 10000, 10000, 3600);
        x.gap(36000);
        Check.dueMark("with one", x, 0, 100000, 7300000, 10000, 3610000, 39600);
        x.drive(0, 0, 1);
        Check.dueMark("behind it", x, 0, 100000, 7300000, 10000, 3610000, 39601);
    }

    private static void wholeMetres() {
        Check.sentence("Promise 14: Whole metres since MARK k");
        TripReckoner x = new TripReckoner();
        x.car(50000, 1, 0);
        x.drive(99, 0, 1);
        Check.due("99 by 100", x.metres(0, true), 0);
        x.drive(1, 0, 1);
        Check.due("100 by 100", x.metres(0, true), 1);
        x.drive(99, 0, 1);
        Check.due("199 by 100", x.metres(0, false), 1);
        x.bounds(1, 1, 1, 1);
        x.gap(1);
        Check.due("199 by 100 at least", x.metres(0, false), 1);
        Check.due("200 by 100 at most", x.metres(0, true), 2);
        x.set(0);
        Check.due("0", x.metres(0, true), 0);
        x.car(50000, 999, 0);
        x.drive(1, 0, 1);
        Check.due("999 by 100", x.metres(0, true), 9);
        x.car(50000, 1000, 0);
        x.drive(1, 0, 1);
        Check.due("1000 by 100", x.metres(0, true), 10);
    }

    private static void mostMetres() {
        Check.sentence("PULSES times METRES by 100 are metres");
        TripReckoner x = new TripReckoner();
        x.car(50000, 1000, 0);
        x.bounds(200, 1, 1, 1);
        for (int i = 0; i < 13; i++) {
            x.gap(36000);
        }
        x.gap(31500);
        x.drive(100000, 0, 1);
        Check.due("100000000 pulses at most", x.metres(0, true), 1000000000L);
        Check.due("100000 at least", x.metres(0, false), 1000000L);
    }

    private static void noKilometresAtMost() {
        Check.sentence("Promise 15: no kilometres by which to divide: the least, by kilometres at most");
        TripReckoner x = new TripReckoner();
        x.car(50000, 1, 0);
        x.bounds(1, 1, 1, 1);
        Check.dueNone("nothing driven", () -> x.average(0, false, 0));
        Check.dueNone("nothing driven", () -> x.average(0, false, 1));
        x.drive(0, 10000, 3600);
        Check.dueNone("fuel alone", () -> x.average(0, false, 0));
        Check.dueNone("fuel alone", () -> x.average(0, false, 1));
        x.gap(1);
        Check.dueAverage("one pulse at most", x, false, 1000000000L, 1);
    }

    private static void noKilometresAtLeast() {
        Check.sentence("Promise 15: no kilometres by which to divide: the greatest, by kilometres at least");
        TripReckoner x = new TripReckoner();
        x.car(50000, 1, 0);
        Check.dueNone("nothing driven", () -> x.average(0, true, 0));
        Check.dueNone("nothing driven", () -> x.average(0, true, 1));
        x.gap(36000);
        Check.dueNone("a gap alone", () -> x.average(0, true, 0));
        Check.dueNone("a gap alone", () -> x.average(0, true, 1));
        Check.dueAverage("the least is 0 by 1", x, false, 0, 1);
        x.drive(1, 0, 1);
        Check.dueAverage("one pulse at least", x, true, 36000000000L, 1);
    }

    private static void noKilometresBehindSet() {
        Check.sentence("Promise 15: AVERAGE since MARK k");
        TripReckoner x = new TripReckoner();
        x.drive(5000, 70, 3);
        x.set(0);
        Check.dueNone("set", () -> x.average(0, false, 0));
        Check.dueNone("set", () -> x.average(0, true, 1));
        Check.due("not set", x.average(1, true, 0), 70);
        x.tells(0);
        x.tells(255);
        Check.dueNone("set by a refill", () -> x.average(3, false, 0));
        Check.due("not set by it", x.average(2, true, 0), 70);
    }

    private static void zeroByOne() {
        Check.sentence("0 is 0 by 1");
        TripReckoner x = new TripReckoner();
        x.drive(1, 0, 1);
        Check.dueAverage("one pulse", x, false, 0, 1);
        Check.dueAverage("one pulse", x, true, 0, 1);
        x.drive(100000, 0, 1);
        Check.dueAverage("more of them", x, false, 0, 1);
        Check.dueAverage("more of them", x, true, 0, 1);
        x.gap(1);
        Check.dueAverage("a gap", x, false, 0, 1);
        // 10 ml by 100001 pulses of 20 cm.
        Check.dueAverage("a gap", x, true, 50000, 100001);
    }

    private static void lowerIsOneOrMore() {
        Check.sentence("its lower one (1), which is 1 or more");
        TripReckoner x = new TripReckoner();
        x.car(50000, 1000, 0);
        x.drive(100, 1, 1);
        Check.dueAverage("1 ml by a kilometre", x, false, 1, 1);
        x.drive(1, 0, 1);
        Check.dueAverage("1 ml by 1010 metres", x, false, 100, 101);
        x.set(0);
        x.drive(99, 1, 1);
        Check.dueAverage("1 ml by 990 metres", x, true, 100, 99);
    }

    private static void noDivisorInCommon() {
        Check.sentence("two numbers without a divisor in common");
        TripReckoner x = new TripReckoner();
        x.car(50000, 7, 0);
        int[][] drives = {{13, 7}, {14, 7}, {100000, 10000}, {99999, 9999}, {1, 10000}, {3, 21}, {65536, 4096}};
        for (int[] d : drives) {
            x.set(0);
            x.drive(d[0], d[1], 1);
            long upper = x.average(0, false, 0);
            long lower = x.average(0, false, 1);
            String what = d[1] + " ml by " + d[0] + " pulses";
            Check.due(what + " is that fraction", upper * d[0] * 7, lower * d[1] * 100000L);
            for (long common = 2; common <= Math.min(upper, lower) && common < 100000; common++) {
                if (upper % common == 0 && lower % common == 0) {
                    Check.due(what + " has in common", common, 1);
                }
            }
        }
    }

    private static void greatNumbers() {
        Check.sentence("A fraction is told by two numbers");
        TripReckoner x = new TripReckoner();
        x.car(50000, 1000, 0);
        x.bounds(1, 100, 1, 1);
        x.drive(99, 9999, 1);
        for (int i = 0; i < 400; i++) {
            x.gap(36000);
        }
        // 1440009999 ml by 990 metres; 9999 ml by 144000990 metres.
        Check.dueAverage("the greatest", x, true, 16000111100L, 11);
        Check.dueAverage("the least", x, false, 111100, 1600011);
        Check.due("seconds", x.mark(0, 4), 400L * 36000 + 1);
        Check.due("fuel", x.mark(0, 3), 1440009999L);
    }

    private static void setByEachRefill() {
        Check.sentence("MARK 3 is SET by each REFILL, too");
        TripReckoner x = Cars.plain();
        x.drive(1, 0, 1);
        Check.due("in the span", x.tells(50), 0);
        Check.dueMark("not in the span", x, 3, 1, 1, 0, 0, 1);
        Check.due("a loss", x.tells(10), 2);
        Check.dueMark("not by a loss", x, 3, 1, 1, 0, 0, 1);
        for (int i = 1; i <= 35; i++) {
            x.drive(1, 0, 1);
            Check.due("refill " + i, x.tells(10 + 3 * i), 1);
            Check.dueMark("by refill " + i, x, 3, 0, 0, 0, 0, 0);
        }
        Check.dueMark("no other", x, 0, 36, 36, 0, 0, 36);
        Check.dueMark("no other", x, 2, 36, 36, 0, 0, 36);
        x.gap(1);
        Check.dueMark("since the latest", x, 3, 0, 60, 0, 10, 1);
    }
}
