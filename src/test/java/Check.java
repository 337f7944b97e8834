import java.util.NoSuchElementException;

/** Holds answers against those that are due, and ends a test with exit code 1 if one was wrong. */
final class Check {
    interface Call {
        long answer();
    }

    private static int wrong = 0;
    private static int held = 0;
    private static String sentence = "";

    private Check() {
    }

    /** The document's words that the answers behind it are held against. */
    static void sentence(String words) {
        sentence = "[" + words + "] ";
    }

    static void due(String what, long got, long want) {
        due(what, String.valueOf(got), String.valueOf(want));
    }

    static void due(String what, boolean got, boolean want) {
        due(what, String.valueOf(got), String.valueOf(want));
    }

    static void due(String what, String got, String want) {
        held++;
        if (!got.equals(want)) {
            wrong++;
            System.out.println(sentence + what + " answered " + got + ", due is " + want);
        }
    }

    static void dueNone(String what, Call call) {
        due(what, answerOf(call), NoSuchElementException.class.getName());
    }

    /** What a call answers, or the very class of what it throws. */
    static String answerOf(Call call) {
        try {
            return String.valueOf(call.answer());
        } catch (RuntimeException e) {
            return e.getClass().getName();
        }
    }

    static void dueSpan(String what, TripReckoner x, int least, int greatest) {
        due(what + ": span(false)", x.span(false), least);
        due(what + ": span(true)", x.span(true), greatest);
    }

    static void dueMark(String what, TripReckoner x, int k, long... numbers) {
        for (int i = 0; i < numbers.length; i++) {
            due(what + ": mark(" + k + ", " + i + ")", x.mark(k, i), numbers[i]);
        }
    }

    static void dueAverage(String what, TripReckoner x, boolean greatest, long upper, long lower) {
        due(what + " upper", x.average(0, greatest, 0), upper);
        due(what + " lower", x.average(0, greatest, 1), lower);
    }

    static void dueRefill(String what, TripReckoner x, int k, int least, int greatest) {
        due(what + ": refill(" + k + ", false)", x.refill(k, false), least);
        due(what + ": refill(" + k + ", true)", x.refill(k, true), greatest);
    }

    static void finish() {
        System.out.println(held + " answers held, " + wrong + " wrong");
        if (wrong != 0) {
            System.exit(1);
        }
    }
}
