/** Promises 2 feed, 3 end, 21 count(4). */
final class TapeTest {
    public static void main(String[] args) {
        room();
        noneCome();
        highestFirst();
        belowZero();
        zeroBytes();
        endTaken();
        endOfAnEmptyTape();
        firstBytesAlone();
        Check.finish();
    }

    private static TripReckoner withBytes(int n) {
        TripReckoner x = new TripReckoner();
        Cars.lay(x, Cars.copies(1, n));
        return x;
    }

    private static void room() {
        Check.sentence("Promise 2: how many it has; NONE, if it would have more than 60");
        for (int n = 0; n <= 60; n++) {
            TripReckoner x = withBytes(n);
            int want = n <= 40 ? n + 20 : TripReckoner.NONE;
            Check.due("feed behind " + n, x.feed(1, 1, 1, 1, 1), want);
            Check.due("count behind " + n, x.count(4), n <= 40 ? n + 20 : n);
        }
    }

    private static void noneCome() {
        Check.sentence("Promise 2: and none come, if it would have more than 60");
        TripReckoner x = withBytes(41);
        x.feed(0, 0, 0, 0, 0);
        Check.due("not one byte", x.end(42), false);
        Check.due("all that were there", x.end(41), true);
        TripReckoner y = withBytes(60);
        Check.due("a full tape", y.feed(-1, -1, -1, -1, -1), TripReckoner.NONE);
        y.tells(255);
        y.end(25);
        Check.due("its bytes stay", y.plan(), 0);
        Check.due("there is room again", y.feed(0, 0, 0, 0, 0), 20);
    }

    /** A tank of one litre, and each leg takes it: the cost is the sum of all prices. */
    private static TripReckoner litreByLitre() {
        TripReckoner x = new TripReckoner();
        x.car(1000, 20, 0);
        x.bounds(1, 1, 1, 1);
        x.tells(255);
        return x;
    }

    /** Each byte is a price once, behind no byte or one byte more. */
    private static void dueBytes(String what, int[] words, int... bytes) {
        TripReckoner x = litreByLitre();
        for (int shift = 0; shift <= 1; shift++) {
            int sum = 0;
            for (int i = 1 - shift; i < bytes.length; i += 2) {
                if (shift == 1) {
                    x.feed(0x01000000, 0, 0, 0, 0);
                    x.end(1);
                }
                x.feed(words[0], words[1], words[2], words[3], words[4]);
                x.feed(0x01010101, 0, 0, 0, 0);
                x.end(i + 2 + shift);
                sum += bytes[i];
                Check.due(what + " byte " + i, x.plan(), sum);
            }
        }
    }

    private static void highestFirst() {
        Check.sentence("Promise 2: of each number the highest first");
        dueBytes("1 to 20", new int[] {0x01020304, 0x05060708, 0x090A0B0C, 0x0D0E0F10, 0x11121314},
            1, 2, 3, 4, 5, 6, 7, 8, 9, 10, 11, 12, 13, 14, 15, 16, 17, 18, 19, 20);
        dueBytes("the greatest number", new int[] {Integer.MAX_VALUE, 0x7F010203, 0x01FF01FF, 0x7F7F7F7F, 0x01010101},
            127, 255, 255, 255, 127, 1, 2, 3, 1, 255, 1, 255, 127, 127, 127, 127, 1, 1, 1, 1);
    }

    private static void belowZero() {
        Check.sentence("Promise 2: of each number the highest first, numbers below 0");
        dueBytes("below 0", new int[] {-1, -2, 0x80818283, -0x01010102, 0xFF010101},
            255, 255, 255, 255, 255, 255, 255, 254, 128, 129, 130, 131, 254, 254, 254, 254, 255, 1, 1, 1);
        dueBytes("between", new int[] {0x80010101, 0x7FFEFDFC, 0xFFFFFF80, 0x807F807F, -0x7EFEFEFF},
            128, 1, 1, 1, 127, 254, 253, 252, 255, 255, 255, 128, 128, 127, 128, 127, 129, 1, 1, 1);
        TripReckoner x = litreByLitre();
        x.feed(Integer.MIN_VALUE, 0, 0, 0, 0);
        x.end(1);
        Check.due("the least number has 128 ahead", x.plan(), 0);
        x.feed(Integer.MIN_VALUE, 0, 0, 0, 0);
        x.end(3);
        Check.due("and 0 behind it", x.plan(), -2);
    }

    private static void zeroBytes() {
        Check.sentence("Promise 2: twenty bytes come");
        for (int at = 0; at < 20; at++) {
            TripReckoner x = litreByLitre();
            int[] bytes = Cars.copies(1, 21);
            bytes[at] = 0;
            Cars.lay(x, bytes);
            // A route of all bytes ahead of the zero, or with it.
            int ahead = at % 2 == 1 ? at : at - 1;
            if (ahead > 0) {
                x.end(ahead);
                Check.due("ahead of the zero at " + at, x.plan(), ahead / 2);
            }
            Cars.lay(x, bytes);
            x.end(ahead + 2);
            Check.due("with the zero at " + at, x.plan(), -2);
        }
    }

    private static void endTaken() {
        Check.sentence("Promise 3: true; false, if it has not so many, or n is below 0");
        for (int n = 0; n <= 60; n += 4) {
            Check.due("end(-1) of " + n, withBytes(n).end(-1), false);
            Check.due("end(0) of " + n, withBytes(n).end(0), true);
            Check.due("end of all " + n, withBytes(n).end(n), true);
            Check.due("end of one more than " + n, withBytes(n).end(n + 1), false);
            TripReckoner x = withBytes(n);
            x.end(n + 1);
            x.end(-1);
            Check.due("a false one leaves " + n, x.count(4), n);
            x.end(n / 2);
            Check.due("a true one leaves half of " + n, x.count(4), n / 2);
            Check.due("no way back to " + n, x.end(n), n == n / 2);
        }
    }

    private static void endOfAnEmptyTape() {
        Check.sentence("Promise 3: an empty tape");
        TripReckoner x = new TripReckoner();
        Check.due("end(0)", x.end(0), true);
        Check.due("end(1)", x.end(1), false);
        Check.due("end(-1)", x.end(-1), false);
        x.feed(1, 1, 1, 1, 1);
        x.plan();
        Check.due("behind plan: end(1)", x.end(1), false);
        Check.due("behind plan: end(0)", x.end(0), true);
    }

    private static void firstBytesAlone() {
        Check.sentence("Promise 3: The tape has its first n bytes alone");
        TripReckoner x = litreByLitre();
        x.feed(0x01020304, 0x05060708, 0x090A0B0C, 0x0D0E0F10, 0x11121314);
        x.end(3);
        x.feed(0x1E1F2021, 0x22232425, 0x26272829, 0x2A2B2C2D, 0x2E2F3031);
        Check.due("23 bytes", x.count(4), 23);
        x.end(7);
        // 1, 2, 3, 30, 31, 32, 33.
        Check.due("what was cut does not come back", x.plan(), 2 + 30 + 32);
    }
}
