import java.util.Random;

/** Promises 19 plan, 20 buys, held against every plan there is on small tanks. */
final class PlanTest {
    public static void main(String[] args) {
        noRoutes();
        tankEdges();
        legsRoundedUp();
        likeCosts();
        latestPlan();
        dearest();
        everyPlan();
        Check.finish();
    }

    private static int planOf(TripReckoner x, int... bytes) {
        int[] words = new int[15];
        for (int i = 0; i < bytes.length; i++) {
            words[i / 4] |= bytes[i] << (24 - i % 4 * 8);
        }
        for (int i = 0; i < 15; i += 5) {
            x.feed(words[i], words[i + 1], words[i + 2], words[i + 3], words[i + 4]);
        }
        x.end(bytes.length);
        int cost = x.plan();
        Check.due("the tape is empty", x.count(4), 0);
        return cost;
    }

    /** A litre a kilometre, and a full tank. */
    private static TripReckoner full(int cap) {
        TripReckoner x = new TripReckoner();
        x.car(cap, 20, 0);
        x.bounds(60, 10, 40, 1000);
        x.tells(255);
        return x;
    }

    private static void noRoutes() {
        TripReckoner x = full(20000);
        Check.due("no byte", x.plan(), -2);
        Check.due("two bytes", planOf(x, 1, 1), -2);
        Check.due("four bytes", planOf(x, 1, 1, 1, 1), -2);
        Check.due("no kilometres", planOf(x, 0), -2);
        Check.due("no price", planOf(x, 1, 0, 1), -2);
        Check.due("no kilometres at the end", planOf(x, 1, 1, 0), -2);
        Check.due("nothing is planned", x.buys(0), TripReckoner.NONE);
        int[] most = new int[25];
        int[] more = new int[27];
        java.util.Arrays.fill(most, 1);
        java.util.Arrays.fill(more, 1);
        Check.due("12 stations", planOf(x, most), 0);
        Check.due("station 11", x.buys(11), 0);
        Check.due("station 12", x.buys(12), TripReckoner.NONE);
        Check.due("13 stations", planOf(x, more), -2);
        Check.due("of the plan before", x.buys(11), 0);
        x.feed(0x01010101, 0x01010101, 0x01010101, 0x01010101, 0x01010101);
        x.feed(0x01010101, 0x01010101, 0x01010101, 0x01010101, 0x01010101);
        x.feed(0x01010101, 0x01010101, 0x01010101, 0x01010101, 0x01010101);
        Check.due("60 bytes", x.plan(), -2);
        Check.due("the tape is empty", x.count(4), 0);
    }

    private static void tankEdges() {
        TripReckoner x = full(20000);
        Check.due("a leg of all there is", planOf(x, 20), 0);
        Check.due("a leg of more", planOf(x, 21), -1);
        Check.due("a leg of a tank", planOf(x, 20, 3, 20), 60);
        Check.due("a leg of more than a tank", planOf(x, 20, 3, 21), -1);
        x.drive(0, 1, 1);
        Check.due("19999 ml are 19 l", planOf(x, 20), -1);
        Check.due("19 l", planOf(x, 19), 0);
        TripReckoner y = full(20999);
        Check.due("20999 ml hold 20 l", planOf(y, 20, 3, 21), -1);
        Check.due("20 l", planOf(y, 20, 3, 20), 60);
        TripReckoner z = new TripReckoner();
        z.bounds(60, 10, 1, 1);
        Check.due("the least counts", planOf(z, 1), -1);
        TripReckoner w = full(1000);
        Check.due("the smallest tank", planOf(w, 1, 255, 1, 255, 1), 510);
        TripReckoner v = full(120000);
        Check.due("the greatest tank", planOf(v, 120, 2, 120), 240);
        Check.due("121 l", planOf(v, 120, 2, 121), -1);
    }

    private static void legsRoundedUp() {
        TripReckoner x = full(20000);
        x.bounds(60, 10, 40, 100);
        Check.due("191 km take 20 l", planOf(x, 191), 0);
        Check.due("200 km take 20 l", planOf(x, 200), 0);
        Check.due("201 km take 21 l", planOf(x, 201), -1);
        x.bounds(60, 10, 1, 1);
        Check.due("1 km takes 1 l", planOf(x, 255, 7, 255, 7, 255), 0);
        x.drive(0, 10000, 1);
        x.drive(0, 9000, 1);
        Check.due("three legs, 1 l", planOf(x, 255, 7, 1, 8, 1), 14);
        Check.due("both at the first", x.buys(0), 2);
    }

    private static void likeCosts() {
        TripReckoner x = full(10000);
        Check.due("like prices", planOf(x, 10, 5, 4, 5, 4), 40);
        Check.due("less at the first", x.buys(0), 4);
        Check.due("the rest at the second", x.buys(1), 4);
        Check.due("a cheap one first", planOf(x, 10, 4, 4, 5, 4), 32);
        Check.due("all at the first", x.buys(0), 8);
        Check.due("none at the second", x.buys(1), 0);
        Check.due("dear, then like ones", planOf(x, 5, 9, 5, 3, 5, 3, 5), 30);
        Check.due("none at the dear one", x.buys(0), 0);
        Check.due("less at the first of them", x.buys(1), 5);
        Check.due("the rest behind it", x.buys(2), 5);
    }

    private static void latestPlan() {
        TripReckoner x = full(10000);
        Check.due("ahead of any", x.buys(0), TripReckoner.NONE);
        Check.due("a plan", planOf(x, 10, 5, 4, 5, 4), 40);
        Check.due("no plan", planOf(x, 11, 5, 4, 5, 4), -1);
        Check.due("no plan behind a station", planOf(x, 1, 5, 11), -1);
        Check.due("no route", planOf(x, 1, 5), -2);
        Check.due("the latest one", x.buys(0), 4);
        Check.due("its second", x.buys(1), 4);
        int[] none = {2, -1, 12, Integer.MIN_VALUE, Integer.MAX_VALUE};
        for (int i : none) {
            Check.due("buys(" + i + ")", x.buys(i), TripReckoner.NONE);
        }
        Check.due("a plan without stations", planOf(x, 3), 0);
        Check.due("it buys nowhere", x.buys(0), TripReckoner.NONE);
        x.drive(0, 10000, 1);
        Check.due("nothing left", planOf(x, 1), -1);
    }

    private static void dearest() {
        TripReckoner x = full(120000);
        int[] bytes = new int[25];
        for (int i = 0; i < 25; i++) {
            bytes[i] = i % 2 == 0 ? 120 : 255;
        }
        Check.due("the dearest of all", planOf(x, bytes), 12 * 120 * 255);
        for (int i = 0; i < 12; i++) {
            Check.due("station " + i, x.buys(i), 120);
        }
    }

    private static void everyPlan() {
        Random dice = new Random(7);
        for (int run = 0; run < 1500; run++) {
            int tank = 1 + dice.nextInt(4);
            TripReckoner x = full(tank * 1000 + dice.nextInt(1000));
            x.drive(0, dice.nextInt(2) * dice.nextInt(2000), 1);
            int stations = dice.nextInt(5);
            int[] bytes = new int[2 * stations + 1];
            for (int i = 0; i < bytes.length; i++) {
                bytes[i] = 1 + dice.nextInt(i % 2 == 0 ? Math.max(1, tank - dice.nextInt(2)) : 4);
            }
            int[] best = new int[stations];
            int cost = leastCost(bytes, x.span(false) / 1000, tank, best);
            Check.due("run " + run, planOf(x, bytes), cost);
            for (int i = 0; i < stations && cost >= 0; i++) {
                Check.due("run " + run + " station " + i, x.buys(i), best[i]);
            }
        }
    }

    /** Tries every plan, those that buy less at the first stations first. */
    private static int leastCost(int[] bytes, int start, int tank, int[] best) {
        int stations = best.length;
        int[] buy = new int[stations];
        int least = -1;
        boolean more = true;
        while (more) {
            int cost = costOf(bytes, start, tank, buy);
            if (cost >= 0 && (least < 0 || cost < least)) {
                least = cost;
                System.arraycopy(buy, 0, best, 0, stations);
            }
            int i = stations - 1;
            while (i >= 0 && buy[i] == tank) {
                buy[i] = 0;
                i--;
            }
            more = i >= 0;
            if (more) {
                buy[i]++;
            }
        }
        return least;
    }

    private static int costOf(int[] bytes, int start, int tank, int[] buy) {
        int litres = start - bytes[0];
        int cost = 0;
        for (int i = 0; i < buy.length; i++) {
            if (litres < 0) {
                return -1;
            }
            litres += buy[i];
            if (litres > tank) {
                return -1;
            }
            cost += buy[i] * bytes[2 * i + 1];
            litres -= bytes[2 * i + 2];
        }
        return litres < 0 ? -1 : cost;
    }
}
