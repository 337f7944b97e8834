import java.util.Random;

/** Promises 19 plan, 20 buys, held against every plan there is on small tanks. */
final class PlanTest {
    public static void main(String[] args) {
        likeCosts();
        everyPlan();
        Check.finish();
    }

    private static void likeCosts() {
        TripReckoner x = Cars.full(10000);
        Check.due("like prices", Cars.planOf(x, 10, 5, 4, 5, 4), 40);
        Check.due("less at the first", x.buys(0), 4);
        Check.due("the rest at the second", x.buys(1), 4);
        Check.due("a cheap one first", Cars.planOf(x, 10, 4, 4, 5, 4), 32);
        Check.due("all at the first", x.buys(0), 8);
        Check.due("none at the second", x.buys(1), 0);
        Check.due("dear, then like ones", Cars.planOf(x, 5, 9, 5, 3, 5, 3, 5), 30);
        Check.due("none at the dear one", x.buys(0), 0);
        Check.due("less at the first of them", x.buys(1), 5);
        Check.due("the rest behind it", x.buys(2), 5);
    }

    private static void everyPlan() {
        Random dice = new Random(7);
        for (int run = 0; run < 1500; run++) {
            int tank = 1 + dice.nextInt(4);
            TripReckoner x = Cars.full(tank * 1000 + dice.nextInt(1000));
            x.drive(0, dice.nextInt(2) * dice.nextInt(2000), 1);
            int stations = dice.nextInt(5);
            int[] bytes = new int[2 * stations + 1];
            for (int i = 0; i < bytes.length; i++) {
                bytes[i] = 1 + dice.nextInt(i % 2 == 0 ? Math.max(1, tank - dice.nextInt(2)) : 4);
            }
            int[] best = new int[stations];
            int cost = leastCost(bytes, x.span(false) / 1000, tank, best);
            Check.due("run " + run, Cars.planOf(x, bytes), cost);
            for (int i = 0; i < stations && cost >= 0; i++) {
                Check.due("run " + run + " station " + i, x.buys(i), best[i]);
            }
        }
    }

    /** Tries every plan, those that buy less at the first stations first. */
    private static int leastCost(int[] bytes, int start, int tank, int[] best) {
        int stations = best.length;
        int[] buy = new int[stations];
        int least = -1;
        boolean more = true;
        while (more) {
            int cost = costOf(bytes, start, tank, buy);
            if (cost >= 0 && (least < 0 || cost < least)) {
                least = cost;
                System.arraycopy(buy, 0, best, 0, stations);
            }
            int i = stations - 1;
            while (i >= 0 && buy[i] == tank) {
                buy[i] = 0;
                i--;
            }
            more = i >= 0;
            if (more) {
                buy[i]++;
            }
        }
        return least;
    }

    private static int costOf(int[] bytes, int start, int tank, int[] buy) {
        int litres = start - bytes[0];
        int cost = 0;
        for (int i = 0; i < buy.length; i++) {
            if (litres < 0) {
                return -1;
            }
            litres += buy[i];
            if (litres > tank) {
                return -1;
            }
            cost += buy[i] * bytes[2 * i + 1];
            litres -= bytes[2 * i + 2];
        }
        return litres < 0 ? -1 : cost;
    }
}
