/** What each call that is taken leaves as it was: every part that the document does not name there. */
final class LeavesTest {
    private static final String[] TAPE_STEPS = {"feed", "end"};

    public static void main(String[] args) {
        questions();
        tapeAndPlan();
        bounds();
        driven();
        floats();
        sets();
        battery();
        car();
        tapeApart();
        Check.finish();
    }

    private static void questions() {
        Check.sentence("span, mark, metres, average, range, shown, refill, buys, count: they tell alone");
        for (Twins.Step past : Twins.PASTS) {
            Twins.alike("all that is asked", past, x -> Twins.told(x), x -> { });
        }
    }

    private static void tapeAndPlan() {
        Check.sentence("feed, end, plan: the tape, and the PLAN by plan() alone");
        for (Twins.Step past : Twins.PASTS) {
            changes("feed", past, x -> x.feed(1, 2, 3, 4, 5), "count4");
            changes("end", past, x -> x.end(0), "count4");
            changes("no route", past, x -> {
                x.end(0);
                x.plan();
            }, "count4");
            changes("no plan", past, x -> {
                x.end(0);
                Check.due("plan", Cars.planOf(x, 255, 1, 255, 1, 255), -1);
            }, "count4");
        }
        changes("a plan", Cars::rich, x -> Check.due("plan", x.plan(), 0), "count4", "buys");
    }

    private static void bounds() {
        Check.sentence("bounds: other BOUNDS, which range, plan and later GAPS alone use");
        for (Twins.Step past : Twins.PASTS) {
            changes("bounds", past, x -> x.bounds(1, 100, 3, 999), "range");
            Twins.alike("bounds and others", past, x -> {
                x.bounds(1, 100, 3, 999);
                x.bounds(7, 8, 9, 10);
            }, x -> x.bounds(7, 8, 9, 10));
        }
    }

    private static void driven() {
        Check.sentence("drive, gap: SPAN, LIES, MARKS and SHOWN");
        Twins.Step settled = x -> {
            Cars.rich(x);
            x.tells(165);
        };
        changes("drive", settled, x -> x.drive(100, 50, 2), "span", "range", "shown", "mark0", "mark1", "mark2", "mark3");
        changes("a lie", settled, x -> {
            while (x.span(true) > 0) {
                x.drive(0, Math.min(10000, x.span(true)), 1);
            }
            x.drive(7, 1, 1);
        }, "span", "range", "shown", "count2", "mark0", "mark1", "mark2", "mark3");
        changes("gap", settled, x -> x.gap(36000), "span", "range", "shown", "mark0", "mark1", "mark2", "mark3");
    }

    private static void floats() {
        Check.sentence("tells: 0 SPAN, SHOWN and the AMOUNT of the latest REFILL; 1, 2 what they count, too");
        changes("in the span", Cars::rich, x -> Check.due("tells", x.tells(166), 0), "span", "range", "shown", "refills");
        changes("a refill", Cars::rich, x -> Check.due("tells", x.tells(255), 1),
            "span", "range", "shown", "count0", "count3", "mark3", "refills");
        changes("a loss", Cars::rich, x -> Check.due("tells", x.tells(0), 2),
            "span", "range", "shown", "count1", "count3");
        changes("a float without a refill", x -> { }, x -> Check.due("tells", x.tells(128), 0), "span", "range", "shown");
    }

    private static void sets() {
        for (int k = 0; k < 4; k++) {
            int mark = k;
            Check.sentence("set: MARK k is SET, and no other");
            for (Twins.Step past : Twins.PASTS) {
                changes("set " + k, past, x -> x.set(mark), "mark" + k);
                Twins.alike("set " + k + " twice", past, x -> {
                    x.set(mark);
                    x.set(mark);
                }, x -> x.set(mark));
            }
        }
    }

    private static void battery() {
        Check.sentence("keep: all is KEPT, nothing else; dead: BOUNDS, tape and PLAN stay");
        for (Twins.Step past : Twins.PASTS) {
            changes("keep", past, x -> x.keep());
            Twins.alike("keep twice", past, x -> {
                x.keep();
                x.keep();
            }, x -> x.keep());
        }
        stays("dead", x -> Check.due("dead", x.dead(1), true));
    }

    private static void car() {
        Check.sentence("car: but for BOUNDS, the tape and the latest PLAN");
        stays("car", x -> Check.due("car", x.car(1000, 1000, 60), true));
    }

    /** The tape and the plan of a rich past, and the bounds by the range of a span that is known. */
    private static void stays(String name, Twins.Step step) {
        TripReckoner x = new TripReckoner();
        Cars.rich(x);
        String bytes = partOf(x, "count4");
        String buys = partOf(x, "buys");
        step.on(x);
        Check.due(name + ": tape", partOf(x, "count4"), bytes);
        Check.due(name + ": plan", partOf(x, "buys"), buys);
        Check.due(name + ": LOW", x.range(true), x.span(true) / 45);
        Check.due(name + ": HIGH", x.range(false), x.span(false) / 110);
        long pulses = x.mark(0, 1);
        long fuel = x.mark(0, 3);
        x.gap(10);
        Check.due(name + ": FAST", x.mark(0, 1) - pulses, 500);
        Check.due(name + ": THIRST", x.mark(0, 3) - fuel, 90);
    }

    private static void tapeApart() {
        Check.sentence("the tape is held apart from all that is reckoned: which comes first is one");
        Twins.Step[] reckoned = {x -> x.drive(10, 20, 30), x -> x.gap(5), x -> x.tells(77), x -> x.tells(255),
            x -> x.set(3), x -> x.keep(), x -> x.dead(9), x -> x.car(70000, 3, 1), x -> x.bounds(5, 6, 7, 8)};
        for (int i = 0; i < reckoned.length; i++) {
            Twins.Step one = reckoned[i];
            for (String name : TAPE_STEPS) {
                Twins.alike(name + " and " + i, Cars::rich, x -> {
                    tapeStep(name, x);
                    one.on(x);
                }, x -> {
                    one.on(x);
                    tapeStep(name, x);
                });
            }
        }
    }

    private static void tapeStep(String name, TripReckoner x) {
        if (name.equals("feed")) {
            x.feed(-1, 2, -3, 4, -5);
        } else {
            x.end(3);
        }
    }

    /** No part may change but those that are named. */
    private static void changes(String name, Twins.Step past, Twins.Step step, String... named) {
        TripReckoner x = new TripReckoner();
        past.on(x);
        String[] before = Twins.parts(x);
        step.on(x);
        String[] behind = Twins.parts(x);
        java.util.List<String> may = java.util.List.of(named);
        for (int i = 0; i < before.length; i++) {
            String part = before[i].substring(0, before[i].indexOf(' '));
            if (!may.contains(part)) {
                Check.due(name + " on " + part, behind[i], before[i]);
            }
        }
    }

    private static String partOf(TripReckoner x, String name) {
        for (String part : Twins.parts(x)) {
            if (part.startsWith(name + " ")) {
                return part;
            }
        }
        return "";
    }
}
