/** The edges of promises 8 tells, 12 span, 16 range, 17 shown, and of JUMPS. */
final class FloatEdgesTest {
    public static void main(String[] args) {
        numbersOfTheFloat();
        zeroAtLeast();
        capAtMost();
        cut();
        everyFloat();
        somethingInCommon();
        liesAbove();
        liesBelow();
        capAndEmpty();
        ranges();
        truthIsCut();
        shownStays();
        shownOfTheGreatestTank();
        refusedStepsNot();
        jumps();
        Check.finish();
    }

    private static void numbersOfTheFloat() {
        Check.sentence("Promise 8: NONE: v is not 0 to 255");
        TripReckoner x = Cars.plain();
        Check.due("-1", x.tells(-1), TripReckoner.NONE);
        Check.due("256", x.tells(256), TripReckoner.NONE);
        Check.due("MIN", x.tells(Integer.MIN_VALUE), TripReckoner.NONE);
        Check.due("MAX", x.tells(Integer.MAX_VALUE), TripReckoner.NONE);
        Check.dueSpan("as it was", x, 0, 25500);
        Check.due("0", x.tells(0), 0);
        Check.dueSpan("0", x, 0, 100);
        Check.due("255", x.tells(255), 1);
        Check.dueSpan("255", x, 25500, 25500);
    }

    private static void dueFloat(int slop, int v, int least, int greatest) {
        TripReckoner x = Cars.withSlop(slop);
        Check.due("SLOP " + slop + " tells " + v, x.tells(v), 0);
        Check.dueSpan("SLOP " + slop + " tells " + v, x, least, greatest);
    }

    private static void zeroAtLeast() {
        Check.sentence("from CAP (v - SLOP) / 255, cut, 0 at least");
        dueFloat(10, 0, 0, 1100);
        dueFloat(10, 9, 0, 2000);
        dueFloat(10, 10, 0, 2100);
        dueFloat(10, 11, 100, 2200);
        dueFloat(60, 0, 0, 6100);
        dueFloat(60, 59, 0, 12000);
        dueFloat(60, 60, 0, 12100);
        dueFloat(60, 61, 100, 12200);
        dueFloat(0, 0, 0, 100);
        dueFloat(0, 1, 100, 200);
        TripReckoner x = Cars.plain();
        x.car(25500, 20, 30);
        x.tells(200);
        Check.due("behind a LOSS, too", x.tells(29), 2);
        Check.dueSpan("behind a LOSS, too", x, 0, 6000);
    }

    private static void capAtMost() {
        Check.sentence("to CAP (v + 1 + SLOP) / 255, cut, CAP at most");
        dueFloat(10, 243, 23300, 25400);
        dueFloat(10, 244, 23400, 25500);
        dueFloat(10, 245, 23500, 25500);
        dueFloat(10, 255, 24500, 25500);
        dueFloat(60, 193, 13300, 25400);
        dueFloat(60, 194, 13400, 25500);
        dueFloat(60, 195, 13500, 25500);
        dueFloat(60, 255, 19500, 25500);
        dueFloat(0, 253, 25300, 25400);
        dueFloat(0, 254, 25400, 25500);
        dueFloat(0, 255, 25500, 25500);
        TripReckoner x = Cars.withSlop(30);
        x.tells(0);
        Check.due("behind a REFILL, too", x.tells(240), 1);
        Check.dueSpan("behind a REFILL, too", x, 21000, 25500);
    }

    private static void cut() {
        Check.sentence("cut");
        TripReckoner x = new TripReckoner();
        x.car(1000, 20, 0);
        // 3.92 to 7.84.
        x.tells(1);
        Check.dueSpan("1000 ml", x, 3, 7);
        TripReckoner y = new TripReckoner();
        y.car(1274, 20, 0);
        // 4.996 to 9.99.
        y.tells(1);
        Check.dueSpan("1274 ml", y, 4, 9);
        TripReckoner z = new TripReckoner();
        z.car(1275, 20, 0);
        z.tells(1);
        Check.dueSpan("1275 ml", z, 5, 10);
        TripReckoner w = new TripReckoner();
        w.car(120000, 20, 60);
        w.tells(193);
        Check.dueSpan("120000 ml", w, 62588, 119529);
    }

    private static void everyFloat() {
        Check.sentence("The FLOAT tells v (0 to 255)");
        int[] caps = {1000, 1001, 50000, 119999, 120000};
        int[] slops = {0, 1, 59, 60};
        for (int cap : caps) {
            for (int slop : slops) {
                for (int v = 0; v <= 255; v++) {
                    TripReckoner x = new TripReckoner();
                    x.car(cap, 20, slop);
                    x.tells(v);
                    long least = v <= slop ? 0 : Math.floorDiv((long) cap * (v - slop), 255L);
                    long greatest = v + 1 + slop >= 255 ? cap : Math.floorDiv((long) cap * (v + 1 + slop), 255L);
                    Check.dueSpan("CAP " + cap + " SLOP " + slop + " tells " + v, x, (int) least, (int) greatest);
                }
            }
        }
    }

    /** The float at 100 tells 10000 to 10100; fuel brings the span to where it is wanted. */
    private static void dueBehind(int v, int fuel, int next, int answer, int least, int greatest) {
        TripReckoner x = Cars.plain();
        x.tells(v);
        x.drive(0, fuel, 1);
        Check.due(v + " less " + fuel + " tells " + next, x.tells(next), answer);
        Check.dueSpan(v + " less " + fuel + " tells " + next, x, least, greatest);
        Check.due("refills", x.count(0), answer == 1 ? 1 : 0);
        Check.due("losses", x.count(1), answer == 2 ? 1 : 0);
    }

    private static void somethingInCommon() {
        Check.sentence("If that and the SPAN have something in common, it is the SPAN now");
        dueBehind(99, 0, 100, 0, 10000, 10000);
        dueBehind(101, 0, 100, 0, 10100, 10100);
        dueBehind(101, 1, 100, 0, 10099, 10100);
        dueBehind(100, 0, 100, 0, 10000, 10100);
        dueBehind(101, 100, 100, 0, 10000, 10100);
        dueBehind(101, 150, 100, 0, 10000, 10050);
        dueBehind(101, 200, 100, 0, 10000, 10000);
        TripReckoner x = Cars.withSlop(10);
        x.gap(1);
        x.tells(50);
        x.gap(100);
        x.tells(40);
        Check.dueSpan("the float's ends within the span's", x, 3000, 5100);
        x.tells(45);
        Check.dueSpan("the span's least, the float's", x, 3500, 5100);
        TripReckoner y = Cars.withSlop(10);
        y.tells(50);
        y.car(25500, 20, 60);
        y.tells(100);
        y.tells(100);
        Check.dueSpan("like ones", y, 4000, 16100);
    }

    private static void liesAbove() {
        Check.sentence("Else the SPAN is what the FLOAT tells; if that lies above: a REFILL");
        dueBehind(99, 1, 100, 1, 10000, 10100);
        dueBehind(98, 0, 100, 1, 10000, 10100);
        dueBehind(0, 100, 1, 1, 100, 200);
        dueBehind(0, 100, 255, 1, 25500, 25500);
        dueBehind(254, 0, 255, 0, 25500, 25500);
        dueBehind(254, 1, 255, 1, 25500, 25500);
    }

    private static void liesBelow() {
        Check.sentence("if below: a LOSS");
        dueBehind(101, 0, 99, 2, 9900, 10000);
        dueBehind(102, 0, 100, 2, 10000, 10100);
        dueBehind(102, 99, 100, 2, 10000, 10100);
        dueBehind(102, 100, 100, 0, 10100, 10100);
        dueBehind(255, 0, 0, 2, 0, 100);
        dueBehind(2, 99, 0, 2, 0, 100);
        dueBehind(2, 100, 0, 0, 100, 100);
    }

    private static void capAndEmpty() {
        Check.sentence("SPAN: the least and the greatest that may be in the TANK");
        TripReckoner x = Cars.plain();
        x.tells(0);
        x.drive(0, 100, 1);
        Check.dueSpan("empty", x, 0, 0);
        Check.due("the float tells empty", x.tells(0), 0);
        Check.dueSpan("still empty", x, 0, 0);
        x.tells(255);
        Check.dueSpan("full", x, 25500, 25500);
        Check.due("the float tells full", x.tells(254), 0);
        Check.dueSpan("still full", x, 25500, 25500);
    }

    private static void ranges() {
        Check.sentence("Promise 16: the SPAN's least by HIGH; its greatest by LOW; both cut");
        TripReckoner x = Cars.plain();
        Check.due("surely nothing", x.range(false), 0);
        x.bounds(1, 1, 1, 1);
        Check.due("CAP by 1", x.range(true), 25500);
        x.tells(255);
        Check.due("all of it surely", x.range(false), 25500);
        x.bounds(1, 1, 1000, 1000);
        Check.due("25500 by 1000", x.range(false), 25);
        Check.due("25500 by 1000", x.range(true), 25);
        x.drive(0, 500, 1);
        Check.due("25000 by 1000", x.range(false), 25);
        Check.due("25000 by 1000", x.range(true), 25);
        x.drive(0, 1, 1);
        Check.due("24999 by 1000", x.range(false), 24);
        Check.due("24999 by 1000", x.range(true), 24);
        TripReckoner y = Cars.plain();
        y.tells(9);
        y.bounds(1, 1, 999, 1000);
        Check.due("900 by 1000", y.range(false), 0);
        Check.due("1000 by 999", y.range(true), 1);
        y.drive(0, 2, 1);
        Check.due("998 by 999", y.range(true), 0);
    }

    private static void truthIsCut() {
        Check.sentence("TRUTH (half of the sum of both ends of the SPAN, by 1000, cut)");
        TripReckoner x = new TripReckoner();
        x.car(2000, 20, 0);
        x.drive(0, 0, 1);
        Check.due("2000 by 2000", x.shown(), 1);
        x.drive(0, 1, 1);
        Check.due("1999 by 2000", x.shown(), 0);
        TripReckoner y = new TripReckoner();
        y.car(1999, 20, 0);
        y.gap(1);
        Check.due("1999 by 2000", y.shown(), 0);
        TripReckoner z = Cars.plain();
        z.tells(0);
        z.tells(9);
        Check.due("900 and 1000", z.shown(), 0);
        z.tells(10);
        Check.due("one number, 1000", z.shown(), 1);
    }

    private static void shownStays() {
        Check.sentence("it goes by 1 towards TRUTH, or stays, if it is that");
        TripReckoner x = new TripReckoner();
        x.car(6000, 20, 0);
        for (int i = 1; i <= 5; i++) {
            x.gap(1);
            Check.due("gap " + i, x.shown(), Math.min(i, 3));
        }
        x.drive(0, 6000, 1);
        for (int i = 1; i <= 5; i++) {
            Check.due("down " + i, x.shown(), Math.max(0, 3 - i));
            x.tells(0);
        }
        Check.due("never below 0", x.shown(), 0);
        Check.due("no jumps", x.count(3), 0);
        x.drive(0, 1, 1);
        Check.due("a lie", x.count(2), 1);
        Check.due("stays at a lie", x.shown(), 0);
    }

    private static void shownOfTheGreatestTank() {
        Check.sentence("SHOWN: whole litres");
        TripReckoner x = new TripReckoner();
        x.car(120000, 20, 0);
        x.tells(255);
        for (int i = 2; i <= 121; i++) {
            x.drive(0, 0, 1);
            Check.due("step " + i, x.shown(), Math.min(i, 120));
        }
        x.tells(0);
        Check.due("at once", x.shown(), 0);
        x.tells(255);
        Check.due("at once", x.shown(), 120);
    }

    private static void refusedStepsNot() {
        Check.sentence("behind each DRIVEN, GAP, FLOAT");
        TripReckoner x = new TripReckoner();
        x.drive(0, 0, 0);
        x.gap(0);
        x.tells(256);
        x.dead(0);
        x.car(0, 0, 0);
        x.bounds(0, 0, 0, 0);
        Check.due("behind nothing else", x.shown(), 0);
        x.set(0);
        x.keep();
        x.bounds(1, 1, 1, 1);
        x.feed(1, 1, 1, 1, 1);
        x.end(1);
        x.plan();
        Check.due("behind nothing else", x.shown(), 0);
        x.drive(0, 0, 1);
        Check.due("DRIVEN", x.shown(), 1);
        x.gap(1);
        Check.due("GAP", x.shown(), 2);
        x.tells(128);
        Check.due("FLOAT", x.shown(), 3);
        x.dead(1);
        Check.due("the GAP of a dead BATTERY, from what was kept", x.shown(), 1);
    }

    private static void jumps() {
        Check.sentence("at a REFILL, a LOSS it is TRUTH at once: a JUMP, if it is another number then");
        TripReckoner x = Cars.plain();
        x.tells(0);
        Check.due("a refill", x.tells(8), 1);
        Check.due("0 is 0", x.count(3), 0);
        Check.due("a refill to 1050", x.tells(10), 1);
        Check.due("1 is shown", x.shown(), 1);
        Check.due("by 1", x.count(3), 1);
        Check.due("a refill to 1950", x.tells(19), 1);
        Check.due("1 is 1", x.count(3), 1);
        Check.due("a loss to 1250", x.tells(12), 2);
        Check.due("1 is 1 at a loss", x.count(3), 1);
        Check.due("a loss to 950", x.tells(9), 2);
        Check.due("0 is shown", x.shown(), 0);
        Check.due("by 1 at a loss", x.count(3), 2);
        Check.due("a refill to full", x.tells(255), 1);
        Check.due("25 is shown", x.shown(), 25);
        Check.due("by 25", x.count(3), 3);
        Check.due("a loss of all", x.tells(0), 2);
        Check.due("0 is shown", x.shown(), 0);
        Check.due("by 25 at a loss", x.count(3), 4);
    }
}
