/** Objects with numbers that are easy to reckon with, and routes by their bytes. */
final class Cars {
    private Cars() {
    }

    /** A float without slop, 100 ml a step: tells(v) is 100 v to 100 v + 100. */
    static TripReckoner plain() {
        return withSlop(0);
    }

    /** 100 ml a step. */
    static TripReckoner withSlop(int slop) {
        TripReckoner x = new TripReckoner();
        x.car(25500, 20, slop);
        return x;
    }

    /** 1000 to 3100 ahead of a refill that tells 9000 to 11100. */
    static TripReckoner filled() {
        TripReckoner x = withSlop(10);
        x.tells(20);
        x.tells(100);
        return x;
    }

    /** A litre a kilometre, and a full tank. */
    static TripReckoner full(int cap) {
        TripReckoner x = new TripReckoner();
        x.car(cap, 20, 0);
        x.bounds(60, 10, 40, 1000);
        x.tells(255);
        return x;
    }

    /** Each refill comes behind a float at 0: refill k tells 100 (50 + k) to 100 (51 + k). */
    static void fill(TripReckoner x, int times) {
        for (int i = 0; i < times; i++) {
            x.tells(0);
            x.tells(50 + i);
        }
    }

    /** Sums up to 93600000 pulses, and leaves FAST 200. */
    static TripReckoner nearLimit() {
        TripReckoner x = new TripReckoner();
        x.bounds(200, 1, 1, 1);
        for (int i = 0; i < 13; i++) {
            x.gap(36000);
        }
        return x;
    }

    /** A refill that settles, a loss, a lie, jumps, marks, gaps, what was kept, a plan and a tape. */
    static void rich(TripReckoner x) {
        x.car(40000, 33, 7);
        x.bounds(50, 9, 45, 110);
        x.tells(60);
        x.drive(1000, 300, 70);
        x.tells(180);
        x.set(1);
        x.gap(20);
        planOf(x, 90, 7, 200, 5, 250, 9, 255);
        x.keep();
        x.drive(800, 250, 60);
        x.tells(90);
        x.set(2);
        x.tells(3);
        x.drive(40, 10000, 9);
        x.tells(160);
        x.drive(500, 200, 30);
        x.tells(163);
        lay(x, 50, 7, 60, 5, 70);
    }

    /** The sum of pulses is the greatest that is taken. */
    static void atTheLimit(TripReckoner x) {
        x.bounds(200, 1, 1, 1);
        for (int i = 0; i < 13; i++) {
            x.gap(36000);
        }
        x.gap(32000);
    }

    static int[] copies(int value, int times) {
        int[] bytes = new int[times];
        java.util.Arrays.fill(bytes, value);
        return bytes;
    }

    /** Puts these bytes on an empty tape. */
    static void lay(TripReckoner x, int... bytes) {
        int[] words = new int[15];
        for (int i = 0; i < bytes.length; i++) {
            words[i / 4] |= bytes[i] << (24 - i % 4 * 8);
        }
        for (int i = 0; i < 15; i += 5) {
            x.feed(words[i], words[i + 1], words[i + 2], words[i + 3], words[i + 4]);
        }
        x.end(bytes.length);
    }

    static int planOf(TripReckoner x, int... bytes) {
        lay(x, bytes);
        return x.plan();
    }
}
