/** The edges of promise 18 refill, and of SETTLED. */
final class RefillEdgesTest {
    public static void main(String[] args) {
        numbers();
        latestThirty();
        thirtyNotThirtyOne();
        settledAcrossTheRow();
        leastAmount();
        greatestAmount();
        nearerLeast();
        nearerGreatest();
        usedInAGap();
        tillTheNextRefill();
        tillTheNextLoss();
        tillTheNextLie();
        allIsNoLie();
        atAFloatAlone();
        refusedFloatSettlesNot();
        marksAreApart();
        Check.finish();
    }

    private static void numbers() {
        Check.sentence("Promise 18: NoSuchElementException: there is none such");
        TripReckoner x = new TripReckoner();
        int[] none = {-1, 0, 1, 29, 30, Integer.MIN_VALUE, Integer.MAX_VALUE};
        for (int k : none) {
            Check.dueNone("no refill yet, " + k, () -> x.refill(k, false));
            Check.dueNone("no refill yet, " + k, () -> x.refill(k, true));
        }
        x.tells(128);
        x.tells(0);
        Check.due("a loss", x.count(1), 1);
        Check.dueNone("a loss is no refill", () -> x.refill(0, false));
        x.tells(128);
        Check.due("refill(0)", x.refill(0, false), 23137 - 2156);
        int[] others = {-1, 1, -29, -30, 30, Integer.MIN_VALUE, Integer.MAX_VALUE};
        for (int k : others) {
            Check.dueNone("one refill, " + k, () -> x.refill(k, false));
            Check.dueNone("one refill, " + k, () -> x.refill(k, true));
        }
    }

    private static void latestThirty() {
        Check.sentence("Promise 18: 0 the first; the latest 30 are told, others are none");
        for (int all = 28; all <= 62; all++) {
            TripReckoner x = Cars.plain();
            Cars.fill(x, all);
            Check.due("refills", x.count(0), all);
            int first = Math.max(0, all - 30);
            for (int k = first; k < all; k++) {
                Check.dueRefill("of " + all, x, k, 100 * (50 + k) - 100, 100 * (51 + k));
            }
            int next = all;
            Check.dueNone("ahead of the first told of " + all, () -> x.refill(first - 1, false));
            Check.dueNone("behind the last of " + all, () -> x.refill(next, true));
        }
    }

    private static void thirtyNotThirtyOne() {
        Check.sentence("Promise 18: the latest 30 are told");
        TripReckoner x = Cars.plain();
        Cars.fill(x, 30);
        Check.dueRefill("the first of 30", x, 0, 4900, 5100);
        x.tells(0);
        Check.dueRefill("a loss takes none away", x, 0, 4900, 5100);
        x.tells(200);
        Check.dueNone("the first of 31", () -> x.refill(0, false));
        Check.dueNone("the first of 31", () -> x.refill(0, true));
        Check.dueRefill("the second of 31", x, 1, 5000, 5200);
        Check.dueRefill("the last of 31", x, 30, 19900, 20100);
    }

    /** The refill behind the 30th takes the first one's place, and it alone is settled. */
    private static void settledAcrossTheRow() {
        Check.sentence("SETTLED: behind the 30th REFILL");
        for (int all = 29; all <= 32; all++) {
            TripReckoner x = Cars.plain();
            Cars.fill(x, all);
            int k = all - 1;
            x.drive(0, 40, 1);
            // It tells 100 (50 + k) less 40; the float one lower cuts the greatest to 100 (50 + k).
            Check.due("in the span", x.tells(49 + k), 0);
            Check.dueRefill("the latest of " + all, x, k, 100 * (50 + k) - 100, 100 * (50 + k) + 40);
            Check.dueRefill("the one ahead of it", x, k - 1, 100 * (49 + k) - 100, 100 * (50 + k));
        }
    }

    private static void leastAmount() {
        Check.sentence("what the FLOAT tells at least less the greatest of the SPAN ahead of it");
        TripReckoner x = Cars.plain();
        x.tells(99);
        x.drive(0, 1, 1);
        Check.due("above by one", x.tells(100), 1);
        Check.dueRefill("1 at least", x, 0, 10000 - 9999, 10100 - 9899);
    }

    private static void greatestAmount() {
        Check.sentence("and what it tells at most less the least of that");
        TripReckoner x = Cars.plain();
        x.tells(0);
        x.drive(0, 100, 1);
        Check.due("from empty to full", x.tells(255), 1);
        Check.dueRefill("all of CAP", x, 0, 25500, 25500);
        TripReckoner y = new TripReckoner();
        y.car(120000, 20, 60);
        y.drive(0, 10000, 1);
        for (int i = 0; i < 11; i++) {
            y.drive(0, 10000, 1);
        }
        Check.due("from empty to full", y.tells(255), 1);
        Check.dueRefill("120000 ml", y, 0, 120000 * 195 / 255, 120000);
    }

    /** 9000 to 11100 behind the refill; a drive of 100 ml between, so that the float is one step lower. */
    private static void nearerLeast() {
        Check.sentence("at least the SPAN's least and U less that greatest, if that is nearer");
        TripReckoner like = Cars.filled();
        like.drive(0, 100, 1);
        like.tells(99);
        Check.dueSpan("like", like, 8900, 11000);
        Check.dueRefill("like", like, 0, 5900, 10100);
        TripReckoner nearer = Cars.filled();
        nearer.drive(0, 101, 1);
        nearer.tells(99);
        Check.dueSpan("by one", nearer, 8900, 10999);
        Check.dueRefill("by one", nearer, 0, 5901, 10100);
        TripReckoner farther = Cars.filled();
        farther.drive(0, 99, 1);
        farther.tells(99);
        Check.dueSpan("the span's own least", farther, 8901, 11000);
        Check.dueRefill("the span's own least", farther, 0, 5900, 10099);
        TripReckoner lost = Cars.filled();
        lost.tells(105);
        lost.gap(100);
        Check.dueSpan("a gap took it down", lost, 8500, 11100);
        lost.tells(95);
        Check.dueRefill("what is farther is not taken", lost, 0, 6400, 10100);
    }

    private static void nearerGreatest() {
        Check.sentence("at most the SPAN's greatest and W less that least, if that is nearer");
        TripReckoner nearer = Cars.filled();
        nearer.tells(99);
        Check.dueRefill("by a step", nearer, 0, 5900, 10000);
        nearer.gap(9);
        nearer.tells(99);
        Check.dueSpan("the least is less by 90", nearer, 8910, 11000);
        Check.dueRefill("W 90 more: not nearer", nearer, 0, 5900, 10000);
        nearer.tells(98);
        Check.dueRefill("by 10", nearer, 0, 5900, 9990);
        TripReckoner like = Cars.filled();
        like.gap(10);
        like.tells(99);
        Check.dueSpan("100 less, and W 100", like, 8900, 11000);
        Check.dueRefill("100 less, and W 100", like, 0, 5900, 10100);
    }

    private static void usedInAGap() {
        Check.sentence("U and W the least and the greatest that may have been used since the REFILL");
        TripReckoner x = Cars.filled();
        x.drive(0, 300, 1);
        x.gap(20);
        x.drive(0, 200, 1);
        // U 500, W 700; 8300 to 10600.
        Check.dueSpan("span", x, 8300, 10600);
        x.tells(96);
        Check.dueSpan("least 8600", x, 8600, 10600);
        Check.dueRefill("U has no gap", x, 0, 8600 + 500 - 3100, 10100);
        x.tells(88);
        Check.dueSpan("greatest 9900", x, 8600, 9900);
        Check.dueRefill("W has it", x, 0, 6000, 9900 + 700 - 1000);
    }

    private static void tillTheNextRefill() {
        Check.sentence("SETTLED: till the next REFILL");
        TripReckoner x = Cars.filled();
        x.tells(103);
        Check.due("another one", x.tells(200), 1);
        Check.dueRefill("settled ahead of it", x, 0, 6200, 10100);
        x.tells(203);
        Check.dueRefill("not behind it", x, 0, 6200, 10100);
        Check.dueRefill("the other is", x, 1, 19300 - 11100, 21100 - 9300);
    }

    private static void tillTheNextLoss() {
        Check.sentence("SETTLED: till the next LOSS");
        TripReckoner x = Cars.filled();
        x.tells(103);
        Check.due("a loss", x.tells(70), 2);
        Check.dueRefill("the loss settles nothing", x, 0, 6200, 10100);
        x.tells(75);
        x.tells(65);
        Check.dueRefill("nor do floats behind it", x, 0, 6200, 10100);
        Check.due("a refill", x.tells(200), 1);
        x.tells(205);
        Check.dueRefill("the old one stays", x, 0, 6200, 10100);
        Check.dueRefill("the new one is settled", x, 1, 19500 - 7600, 21100 - 6500);
    }

    private static void tillTheNextLie() {
        Check.sentence("SETTLED: till the next LIE");
        TripReckoner x = Cars.filled();
        x.drive(0, 10000, 1);
        x.tells(0);
        Check.dueRefill("10000 used", x, 0, 10000 - 3100, 10100);
        x.drive(0, 1101, 1);
        Check.due("a lie by one", x.count(2), 1);
        x.tells(0);
        Check.dueRefill("not behind a lie", x, 0, 6900, 10100);
    }

    private static void allIsNoLie() {
        Check.sentence("if FUEL is above the greatest, it is a LIE: all of it is none");
        TripReckoner x = Cars.filled();
        x.drive(0, 10000, 1);
        x.drive(0, 1100, 1);
        Check.due("no lie", x.count(2), 0);
        Check.dueSpan("empty", x, 0, 0);
        x.tells(0);
        Check.dueRefill("11100 used", x, 0, 11100 - 3100, 11100 - 1000);
    }

    private static void atAFloatAlone() {
        Check.sentence("SETTLED: at each FLOAT that is neither");
        TripReckoner x = Cars.filled();
        x.drive(0, 10000, 1);
        x.gap(5);
        x.keep();
        x.set(3);
        Check.dueRefill("no float", x, 0, 5900, 10100);
        x.tells(0);
        Check.dueRefill("a float", x, 0, 6900, 10100);
    }

    private static void refusedFloatSettlesNot() {
        Check.sentence("Promise 8: NONE: v is not 0 to 255");
        TripReckoner x = Cars.filled();
        x.drive(0, 10000, 1);
        x.tells(-1);
        x.tells(256);
        Check.dueRefill("no float", x, 0, 5900, 10100);
        x.drive(0, 10001, 1);
        x.gap(36001);
        x.tells(0);
        Check.dueRefill("what was refused is not used", x, 0, 6900, 10100);
    }

    private static void marksAreApart() {
        Check.sentence("used since the REFILL, not since a MARK was SET");
        TripReckoner x = Cars.filled();
        x.drive(0, 500, 1);
        for (int k = 0; k < 4; k++) {
            x.set(k);
        }
        x.tells(99);
        Check.dueRefill("500 used", x, 0, 8900 + 500 - 3100, 10100);
    }
}
