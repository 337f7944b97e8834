/** The edges of promises 19 plan, 20 buys. */
final class PlanEdgesTest {
    public static void main(String[] args) {
        lengths();
        twelveStations();
        kilometres();
        kilometresToTheLast();
        prices();
        emptyThen();
        wholeLitres();
        wholeCap();
        roundedUp();
        noLegTakesMore();
        capIsNotPassed();
        smallestAndGreatestTank();
        noneThere();
        buysLess();
        buysNumbers();
        aheadOfAny();
        latestPlan();
        planWithoutStations();
        fewerStationsThanBefore();
        highOfNow();
        Check.finish();
    }

    private static void lengths() {
        Check.sentence("Promise 19: bytes kilometres, price, kilometres, price, .., kilometres; -2: it is no ROUTE");
        for (int n = 0; n <= 60; n++) {
            TripReckoner x = Cars.full(20000);
            boolean route = n % 2 == 1 && n <= 25;
            Check.due(n + " bytes", Cars.planOf(x, Cars.copies(1, n)), route ? 0 : -2);
        }
    }

    private static void twelveStations() {
        Check.sentence("12 stations at most");
        TripReckoner x = Cars.full(1000);
        Check.due("12 stations", Cars.planOf(x, Cars.copies(1, 25)), 12);
        for (int i = 0; i < 12; i++) {
            Check.due("station " + i, x.buys(i), 1);
        }
        Check.due("station 12", x.buys(12), TripReckoner.NONE);
        Check.due("13 stations", Cars.planOf(x, Cars.copies(1, 27)), -2);
        Check.due("the plan of 12 stays", x.buys(11), 1);
        Check.due("11 stations", Cars.planOf(x, Cars.copies(1, 23)), 11);
        Check.due("station 11 of 11", x.buys(11), TripReckoner.NONE);
    }

    private static void kilometres() {
        Check.sentence("legs of 1 to 255 kilometres");
        for (int at = 0; at <= 24; at += 2) {
            TripReckoner x = Cars.full(20000);
            x.bounds(1, 1, 1, 1);
            int[] bytes = Cars.copies(1, 25);
            bytes[at] = 0;
            Check.due("0 at " + at, Cars.planOf(x, bytes), -2);
            bytes[at] = 255;
            Check.due("255 at " + at, Cars.planOf(x, bytes), 0);
            bytes[at] = 1;
            Check.due("1 at " + at, Cars.planOf(x, bytes), 0);
        }
    }

    /** With HIGH 393, 254 kilometres take 99.822 litres and 255 take 100.215. */
    private static void kilometresToTheLast() {
        Check.sentence("a leg of k kilometres: 255");
        TripReckoner x = Cars.full(100000);
        x.bounds(1, 1, 1, 393);
        Check.due("254 by 100 l", Cars.planOf(x, 254), 0);
        Check.due("255 by 100 l", Cars.planOf(x, 255), -1);
        TripReckoner y = Cars.full(101000);
        y.bounds(1, 1, 1, 393);
        Check.due("255 by 101 l", Cars.planOf(y, 255), 0);
    }

    private static void prices() {
        Check.sentence("a price a litre (1 to 255)");
        for (int at = 1; at <= 23; at += 2) {
            TripReckoner x = Cars.full(1000);
            int[] bytes = Cars.copies(1, 25);
            bytes[at] = 0;
            Check.due("0 at " + at, Cars.planOf(x, bytes), -2);
            bytes[at] = 255;
            Check.due("255 at " + at, Cars.planOf(x, bytes), 11 + 255);
            bytes[at] = 1;
            Check.due("1 at " + at, Cars.planOf(x, bytes), 12);
        }
        TripReckoner y = Cars.full(20000);
        Check.due("a price of 0 where none is bought", Cars.planOf(y, 1, 0, 1), -2);
    }

    private static void emptyThen() {
        Check.sentence("Promise 19: The tape (empty then)");
        TripReckoner x = Cars.full(20000);
        int[][] routes = {{1}, {1, 1}, {0}, {21}, {20, 1, 20}, {20, 1, 21}, {}, Cars.copies(1, 60)};
        int[] due = {0, -2, -2, -1, 20, -1, -2, -2};
        for (int i = 0; i < routes.length; i++) {
            Check.due("route " + i, Cars.planOf(x, routes[i]), due[i]);
            Check.due("its bytes", x.count(4), 0);
            Check.due("no byte is left", x.end(1), false);
            Check.due("plan once more", x.plan(), -2);
            Check.due("room for 20", x.feed(1, 1, 1, 1, 1), 20);
            x.end(0);
        }
    }

    /** 20000 ml less what was used, a litre a kilometre. */
    private static void dueWay(int used, int kilometres) {
        TripReckoner x = Cars.full(20000);
        x.drive(0, used, 1);
        Check.due(used + " used, " + kilometres + " km", Cars.planOf(x, kilometres), 0);
        Check.due(used + " used, one more", Cars.planOf(x, kilometres + 1), -1);
    }

    private static void wholeLitres() {
        Check.sentence("One has so many whole litres as the SPAN's least (cut)");
        dueWay(0, 20);
        dueWay(1, 19);
        dueWay(999, 19);
        dueWay(1000, 19);
        dueWay(1001, 18);
        TripReckoner x = Cars.full(20000);
        x.drive(0, 10000, 1);
        x.drive(0, 9000, 1);
        Check.due("1000 ml", Cars.planOf(x, 1), 0);
        x.drive(0, 1, 1);
        Check.due("999 ml", Cars.planOf(x, 1), -1);
        TripReckoner y = new TripReckoner();
        Check.due("0 at least, CAP at most", Cars.planOf(y, 1), -1);
        y.tells(30);
        y.bounds(1, 10, 1, 1);
        Check.due("3921 ml at least", Cars.planOf(y, 1, 9, 1, 9, 1), 0);
        Check.due("four legs", Cars.planOf(y, 1, 9, 1, 9, 1, 9, 1), 9);
        y.gap(92);
        Check.due("3001 ml at least", Cars.planOf(y, 1, 9, 1, 9, 1), 0);
        y.gap(1);
        Check.due("2991 ml at least", Cars.planOf(y, 1, 9, 1, 9, 1), 9);
    }

    private static void wholeCap() {
        Check.sentence("CAP (cut) at most");
        int[][] due = {{19000, 19}, {19001, 19}, {19999, 19}, {20000, 20}, {20001, 20}};
        for (int[] d : due) {
            TripReckoner x = Cars.full(d[0]);
            Check.due("CAP " + d[0] + " at the start", Cars.planOf(x, d[1]), 0);
            Check.due("CAP " + d[0] + " one more", Cars.planOf(x, d[1] + 1), -1);
            Check.due("CAP " + d[0] + " at a station", Cars.planOf(x, 1, 1, d[1]), 1);
            Check.due("CAP " + d[0] + " one more", Cars.planOf(x, 1, 1, d[1] + 1), -1);
        }
    }

    /** One litre in the tank, or two. */
    private static void dueLitres(int high, int kilometres, int litres) {
        for (int has = 1; has <= 2; has++) {
            TripReckoner x = Cars.full(1000 * has);
            x.bounds(1, 1, 1, high);
            Check.due(has + " l, HIGH " + high + ", " + kilometres + " km", Cars.planOf(x, kilometres),
                litres <= has ? 0 : -1);
        }
    }

    private static void roundedUp() {
        Check.sentence("k HIGH / 1000 litres, rounded up");
        dueLitres(1, 1, 1);
        dueLitres(1, 255, 1);
        dueLitres(9, 111, 1);
        dueLitres(8, 125, 1);
        dueLitres(4, 250, 1);
        dueLitres(7, 143, 2);
        dueLitres(999, 1, 1);
        dueLitres(1000, 1, 1);
        dueLitres(1000, 2, 2);
        dueLitres(999, 2, 2);
        dueLitres(667, 3, 3);
        dueLitres(8, 250, 2);
        dueLitres(8, 251, 3);
        dueLitres(1000, 255, 255);
    }

    private static void noLegTakesMore() {
        Check.sentence("no leg may take more than there is");
        TripReckoner x = Cars.full(10000);
        Check.due("the first, all there is", Cars.planOf(x, 10, 1, 1), 1);
        Check.due("the first, one more", Cars.planOf(x, 11, 1, 1), -1);
        Check.due("a middle one", Cars.planOf(x, 1, 1, 10, 1, 1), 2);
        Check.due("a middle one, one more", Cars.planOf(x, 1, 1, 11, 1, 1), -1);
        Check.due("the last", Cars.planOf(x, 1, 1, 1, 1, 10), 2);
        Check.due("the last, one more", Cars.planOf(x, 1, 1, 1, 1, 11), -1);
        Check.due("two legs by one tank", Cars.planOf(x, 5, 7, 5), 0);
        Check.due("two legs, one more", Cars.planOf(x, 5, 7, 6), 7);
    }

    private static void capIsNotPassed() {
        Check.sentence("so that CAP is not passed");
        TripReckoner x = Cars.full(10000);
        // Full at the cheap one, the last litre at the dear one.
        Check.due("cheap, then dear", Cars.planOf(x, 10, 1, 5, 9, 5), 10);
        Check.due("a full tank", x.buys(0), 10);
        Check.due("nothing more", x.buys(1), 0);
        Check.due("one more", Cars.planOf(x, 10, 1, 5, 9, 6), 19);
        Check.due("a full tank", x.buys(0), 10);
        Check.due("the last litre", x.buys(1), 1);
        Check.due("full already but for one", Cars.planOf(x, 1, 1, 10, 9, 1), 10);
        Check.due("one litre has room", x.buys(0), 1);
        Check.due("one litre dear", x.buys(1), 1);
    }

    private static void smallestAndGreatestTank() {
        Check.sentence("CAP (1000 to 120000)");
        TripReckoner small = Cars.full(1000);
        Check.due("a litre", Cars.planOf(small, 1, 255, 1), 255);
        Check.due("two litres", Cars.planOf(small, 1, 255, 2), -1);
        TripReckoner great = Cars.full(120000);
        int[] bytes = Cars.copies(120, 25);
        for (int i = 1; i < 25; i += 2) {
            bytes[i] = 255;
        }
        Check.due("the greatest COST", Cars.planOf(great, bytes), 12 * 120 * 255);
        Check.due("all of CAP at the last", great.buys(11), 120);
        bytes[24] = 121;
        Check.due("121 litres", Cars.planOf(great, bytes), -1);
        Check.due("as it was", great.buys(11), 120);
    }

    private static void noneThere() {
        Check.sentence("Promise 19: -1: there is none");
        TripReckoner x = Cars.full(10000);
        Check.due("the first leg", Cars.planOf(x, 11), -1);
        Check.due("the first leg, with a station behind it", Cars.planOf(x, 11, 1, 1), -1);
        Check.due("the last of 12", Cars.planOf(x, 1, 1, 1, 1, 1, 1, 1, 1, 1, 1, 1, 1, 1, 1, 1, 1, 1, 1, 1, 1, 1, 1, 1,
            1, 11), -1);
        Check.due("255 km", Cars.planOf(x, 255), -1);
        Check.due("nothing is planned by it", x.buys(0), TripReckoner.NONE);
        Check.sentence("Promise 19: -2 ahead of -1");
        Check.due("no route with a leg too long", Cars.planOf(x, 11, 0, 1), -2);
        Check.due("no route with a leg too long", Cars.planOf(x, 11, 1), -2);
    }

    private static void dueBuys(String what, TripReckoner x, int... litres) {
        for (int i = 0; i < litres.length; i++) {
            Check.due(what + ": station " + i, x.buys(i), litres[i]);
        }
        Check.due(what + ": no more stations", x.buys(litres.length), TripReckoner.NONE);
    }

    private static void buysLess() {
        Check.sentence("of like ones, at the first station at which they are unlike it buys less");
        TripReckoner x = Cars.full(10000);
        Check.due("like prices", Cars.planOf(x, 10, 4, 5, 4, 5), 40);
        dueBuys("like prices", x, 5, 5);
        Check.due("dearer by 1", Cars.planOf(x, 10, 4, 5, 5, 5), 40);
        dueBuys("dearer by 1", x, 10, 0);
        Check.due("cheaper by 1", Cars.planOf(x, 10, 5, 5, 4, 5), 45);
        dueBuys("cheaper by 1", x, 5, 5);
        Check.due("all at the last of three", Cars.planOf(x, 1, 3, 1, 3, 8, 3, 5), 15);
        dueBuys("all at the last of three", x, 0, 0, 5);
        Check.due("the first must", Cars.planOf(x, 8, 3, 3, 9, 1, 3, 5), 21);
        dueBuys("the first must", x, 2, 0, 5);
        Check.due("like ones round a dear one", Cars.planOf(x, 10, 3, 4, 9, 4, 3, 4), 36);
        dueBuys("like ones round a dear one", x, 8, 0, 4);
    }

    private static void buysNumbers() {
        Check.sentence("Promise 20: at station i (from 0 on); NONE: no such station");
        TripReckoner x = Cars.full(10000);
        Cars.planOf(x, 10, 1, 2, 1, 3, 1, 4);
        int[] due = {-1, 2, 3, 4, -1};
        for (int i = -1; i <= 3; i++) {
            Check.due("buys(" + i + ")", x.buys(i), due[i + 1]);
        }
        int[] none = {4, 11, 12, 13, -12, Integer.MIN_VALUE, Integer.MAX_VALUE};
        for (int i : none) {
            Check.due("buys(" + i + ")", x.buys(i), TripReckoner.NONE);
        }
    }

    private static void aheadOfAny() {
        Check.sentence("Promise 20: NONE: or ahead of any");
        TripReckoner x = Cars.full(10000);
        Check.due("ahead of any", x.buys(0), TripReckoner.NONE);
        Cars.planOf(x, 11, 1, 1);
        Check.due("behind one that was -1", x.buys(0), TripReckoner.NONE);
        Cars.planOf(x, 1, 1);
        Check.due("behind one that was -2", x.buys(0), TripReckoner.NONE);
        Cars.lay(x, 1, 1, 1);
        Check.due("a tape is no plan", x.buys(0), TripReckoner.NONE);
        x.plan();
        Check.due("behind one that was 0", x.buys(0), 0);
    }

    private static void latestPlan() {
        Check.sentence("Promise 20: the PLAN of the latest plan() that was 0 or more");
        TripReckoner x = Cars.full(10000);
        Check.due("0", Cars.planOf(x, 1, 1, 1, 1, 1), 0);
        dueBuys("0", x, 0, 0);
        Check.due("27", Cars.planOf(x, 10, 9, 1, 9, 2), 27);
        dueBuys("27", x, 1, 2);
        Check.due("-1 at the first leg", Cars.planOf(x, 11, 9, 1, 9, 2), -1);
        dueBuys("-1 at the first leg", x, 1, 2);
        Check.due("-1 behind a station", Cars.planOf(x, 1, 2, 3, 4, 5, 6, 7, 8, 11), -1);
        dueBuys("-1 behind a station", x, 1, 2);
        Check.due("-2", Cars.planOf(x, 1, 0, 1), -2);
        dueBuys("-2", x, 1, 2);
        Check.due("-2, an empty tape", x.plan(), -2);
        dueBuys("-2, an empty tape", x, 1, 2);
        x.drive(0, 5000, 1);
        x.bounds(1, 1, 1, 1);
        x.tells(0);
        x.dead(1);
        dueBuys("whatever comes", x, 1, 2);
        x.car(1000, 20, 0);
        dueBuys("another car", x, 1, 2);
    }

    private static void planWithoutStations() {
        Check.sentence("with a station behind each but the last one: one leg has none");
        TripReckoner x = Cars.full(10000);
        Check.due("a plan", Cars.planOf(x, 10, 9, 1), 9);
        dueBuys("a plan", x, 1);
        Check.due("without stations", Cars.planOf(x, 10), 0);
        dueBuys("without stations", x);
    }

    private static void fewerStationsThanBefore() {
        Check.sentence("Promise 20: NONE: no such station");
        TripReckoner x = Cars.full(1000);
        Cars.planOf(x, Cars.copies(1, 25));
        Check.due("two stations", Cars.planOf(x, 1, 5, 1, 6, 1), 11);
        dueBuys("two stations", x, 1, 1);
        Check.due("the last of twelve", x.buys(11), TripReckoner.NONE);
    }

    private static void highOfNow() {
        Check.sentence("a leg of k kilometres takes k HIGH / 1000 litres");
        TripReckoner x = Cars.full(10000);
        Cars.lay(x, 11);
        x.bounds(1, 1, 1, 909);
        Check.due("9.999 l", x.plan(), 0);
        Cars.lay(x, 11);
        x.bounds(1, 1, 1, 910);
        Check.due("10.01 l", x.plan(), -1);
    }
}
