/** Promises 2 feed, 3 end, 21 count(4). The order of the bytes is seen through plan(). */
final class TapeTest {
    public static void main(String[] args) {
        room();
        ends();
        order();
        Check.finish();
    }

    private static void room() {
        TripReckoner x = new TripReckoner();
        Check.due("a new tape", x.count(4), 0);
        Check.due("first feed", x.feed(1, 2, 3, 4, 5), 20);
        Check.due("second feed", x.feed(-1, -2, -3, -4, -5), 40);
        Check.due("third feed", x.feed(0, 0, 0, 0, 0), 60);
        Check.due("fourth feed", x.feed(0, 0, 0, 0, 0), TripReckoner.NONE);
        Check.due("none came", x.count(4), 60);
        Check.due("end(41)", x.end(41), true);
        Check.due("61 would be too many", x.feed(0, 0, 0, 0, 0), TripReckoner.NONE);
        Check.due("still 41", x.count(4), 41);
        Check.due("end(40)", x.end(40), true);
        Check.due("60 are not too many", x.feed(0, 0, 0, 0, 0), 60);
    }

    private static void ends() {
        TripReckoner x = new TripReckoner();
        Check.due("end(1) of none", x.end(1), false);
        Check.due("end(0) of none", x.end(0), true);
        x.feed(0, 0, 0, 0, 0);
        Check.due("end(-1)", x.end(-1), false);
        Check.due("end(MIN)", x.end(Integer.MIN_VALUE), false);
        Check.due("end(21)", x.end(21), false);
        Check.due("end(MAX)", x.end(Integer.MAX_VALUE), false);
        Check.due("a false end leaves all", x.count(4), 20);
        Check.due("end(20)", x.end(20), true);
        Check.due("all are left", x.count(4), 20);
        Check.due("end(7)", x.end(7), true);
        Check.due("seven are left", x.count(4), 7);
        Check.due("end(8) of seven", x.end(8), false);
        Check.due("feed behind seven", x.feed(0, 0, 0, 0, 0), 27);
        Check.due("end(0)", x.end(0), true);
        Check.due("none is left", x.count(4), 0);
    }

    private static void order() {
        TripReckoner x = new TripReckoner();
        x.car(10000, 20, 0);
        x.bounds(60, 10, 40, 1000);
        x.tells(255);
        // 9 km, price 200, 5 km, price 3, 10 km over the bounds of two numbers.
        x.feed(0x09C80503, 0x0A000000, 0, 0, 0);
        x.end(5);
        Check.due("highest byte first", x.plan(), 4 * 200 + 10 * 3);
        Check.due("first station", x.buys(0), 4);
        Check.due("second station", x.buys(1), 10);
        // Ten legs of 1 km, the last one of 5 km is the first byte of the second feed.
        x.feed(0x01FF0101, 0x01010101, 0x01010101, 0x01010101, 0x01010101);
        x.feed(0x05000000, 0, 0, 0, 0);
        x.end(21);
        Check.due("behind the tape", x.plan(), 5);
        // Bytes above 127 are 128 to 255.
        x.feed(0x0AFF0100, 0, 0, 0, 0);
        x.end(3);
        Check.due("price 255", x.plan(), 255);
    }
}
