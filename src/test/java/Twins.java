/**
 * Two objects with the same past: one of them makes a call that must be refused, then both
 * go on in the same way and must answer alike, as if that call had not been made.
 */
final class Twins {
    interface Step {
        void on(TripReckoner x);
    }

    interface Call {
        long on(TripReckoner x);
    }

    static final String THROWS = "java.util.NoSuchElementException";

    /** With nothing, much, many refills and the most pulses behind them. */
    static final Step[] PASTS = {x -> { }, Cars::rich, x -> Cars.fill(x, 33), Cars::atTheLimit};

    /** Each of them lets another part of what an object holds be seen. */
    private static final Step[] GO_ON = {
        x -> { },
        x -> x.gap(7),
        x -> x.drive(321, 123, 4),
        x -> floats(x),
        x -> {
            // In the span of the past that has most behind it, so that its refill is settled.
            x.drive(0, 400, 1);
            x.tells(166);
            x.tells(155);
        },
        x -> x.tells(0),
        x -> x.tells(255),
        x -> x.dead(3),
        x -> {
            x.keep();
            x.dead(1);
        },
        x -> x.plan(),
        x -> {
            x.feed(0x01020304, 0x05060708, 0x090A0B0C, 0x0D0E0F10, 0x11121314);
            x.end(25);
            x.plan();
        },
        x -> toTheLimit(x),
        x -> {
            x.car(30000, 50, 5);
            x.gap(2);
        },
    };

    private Twins() {
    }

    static void refused(String name, Step past, Call call, long answer) {
        refused(name, past, call, String.valueOf(answer));
    }

    static void refusedByThrow(String name, Step past, Call call) {
        refused(name, past, call, THROWS);
    }

    private static void refused(String name, Step past, Call call, String answer) {
        for (int i = 0; i < GO_ON.length; i++) {
            TripReckoner asked = made(past);
            Check.due(name, Check.answerOf(() -> call.on(asked)), answer);
            GO_ON[i].on(asked);
            Check.due(name + ", then what " + i + " tells", told(asked), told(gone(past, x -> { }, GO_ON[i])));
        }
    }

    /** The first way must leave all as the second one does. */
    static void alike(String name, Step past, Step one, Step other) {
        for (int i = 0; i < GO_ON.length; i++) {
            Check.due(name + ", then what " + i + " tells",
                told(gone(past, one, GO_ON[i])), told(gone(past, other, GO_ON[i])));
        }
    }

    private static TripReckoner made(Step past) {
        TripReckoner x = new TripReckoner();
        past.on(x);
        return x;
    }

    private static TripReckoner gone(Step past, Step step, Step goOn) {
        TripReckoner x = made(past);
        step.on(x);
        goOn.on(x);
        return x;
    }

    /** Refills and losses, each of them settled or not by a float behind it. */
    private static void floats(TripReckoner x) {
        for (int v = 60; v <= 200; v += 20) {
            x.tells(v);
            x.tells(v + 1);
        }
    }

    /** So many pulses as are still taken, to the last one. */
    private static void toTheLimit(TripReckoner x) {
        x.bounds(200, 1, 1, 1);
        for (int i = 0; i < 15; i++) {
            x.gap(36000);
        }
        for (int pulses = 100000; pulses >= 1; pulses /= 10) {
            for (int i = 0; i < (pulses == 100000 ? 72 : 10); i++) {
                x.drive(pulses, 0, 1);
            }
        }
    }

    /** All that an object answers by now, in at most 140 calls. */
    static String told(TripReckoner x) {
        StringBuilder all = new StringBuilder();
        all.append("span ").append(x.span(false)).append(' ').append(x.span(true));
        all.append(" range ").append(x.range(false)).append(' ').append(x.range(true));
        all.append(" shown ").append(x.shown());
        for (int what = 0; what <= 4; what++) {
            all.append(" count").append(what).append(' ').append(x.count(what));
        }
        for (int k = 0; k < 4; k++) {
            tellMark(x, k, all);
        }
        all.append(" refills");
        int refills = x.count(0);
        for (int k = Math.max(0, refills - 31); k <= refills; k++) {
            int number = k;
            all.append(' ').append(Check.answerOf(() -> x.refill(number, false)));
            all.append(' ').append(Check.answerOf(() -> x.refill(number, true)));
        }
        all.append(" buys");
        for (int i = 0; i <= 12; i++) {
            all.append(' ').append(x.buys(i));
        }
        return all.toString();
    }

    /** The same, by parts: "span ..", "range ..", "shown ..", "count0 ..", "mark0 ..", "refills ..", "buys ..". */
    static String[] parts(TripReckoner x) {
        return told(x).split(" (?=range|shown|count|mark|refills|buys)");
    }

    private static void tellMark(TripReckoner x, int k, StringBuilder all) {
        all.append(" mark").append(k);
        for (int what = 0; what <= 4; what++) {
            all.append(' ').append(x.mark(k, what));
        }
        all.append(' ').append(x.metres(k, false)).append(' ').append(x.metres(k, true));
        for (int what = 0; what <= 1; what++) {
            int part = what;
            all.append(' ').append(Check.answerOf(() -> x.average(k, false, part)));
            all.append(' ').append(Check.answerOf(() -> x.average(k, true, part)));
        }
    }
}
