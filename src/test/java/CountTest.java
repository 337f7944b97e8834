/** Promise 21 count, each number apart from the others. */
final class CountTest {
    public static void main(String[] args) {
        TripReckoner x = new TripReckoner();
        x.car(25500, 20, 0);
        x.tells(0);
        x.tells(2);
        x.tells(4);
        x.tells(6);
        x.tells(3);
        x.tells(0);
        for (int i = 0; i < 4; i++) {
            x.drive(0, 10000, 1);
        }
        x.tells(100);
        x.feed(0, 0, 0, 0, 0);
        x.end(7);
        Check.due("refills", x.count(0), 4);
        Check.due("losses", x.count(1), 2);
        Check.due("lies", x.count(2), 4);
        Check.due("jumps", x.count(3), 1);
        Check.due("bytes", x.count(4), 7);
        Check.sentence("Promise 21: NONE for another what");
        int[] none = {-1, 5, 6, Integer.MIN_VALUE, Integer.MAX_VALUE};
        for (int what : none) {
            Check.due("count(" + what + ")", x.count(what), TripReckoner.NONE);
        }
        Check.finish();
    }
}
