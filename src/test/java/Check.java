import java.util.NoSuchElementException;

/** Holds answers against those that are due, and ends a test with exit code 1 if one was wrong. */
final class Check {
    interface Call {
        long answer();
    }

    private static int wrong = 0;
    private static int held = 0;

    private Check() {
    }

    static void due(String what, long got, long want) {
        held++;
        if (got != want) {
            wrong++;
            System.out.println(what + " answered " + got + ", due is " + want);
        }
    }

    static void due(String what, boolean got, boolean want) {
        due(what, got ? 1 : 0, want ? 1 : 0);
    }

    /** Only the exception itself counts, none of a class below it. */
    static void dueNone(String what, Call call) {
        held++;
        String got;
        try {
            got = String.valueOf(call.answer());
        } catch (RuntimeException e) {
            got = e.getClass().getName();
        }
        if (!got.equals(NoSuchElementException.class.getName())) {
            wrong++;
            System.out.println(what + " answered " + got + ", due is NoSuchElementException");
        }
    }

    static void dueSpan(String what, TripReckoner x, int least, int greatest) {
        due(what + ": span(false)", x.span(false), least);
        due(what + ": span(true)", x.span(true), greatest);
    }

    static void dueMark(String what, TripReckoner x, int k, long... numbers) {
        for (int i = 0; i < numbers.length; i++) {
            due(what + ": mark(" + k + ", " + i + ")", x.mark(k, i), numbers[i]);
        }
    }

    static void finish() {
        System.out.println(held + " answers held, " + wrong + " wrong");
        if (wrong != 0) {
            System.exit(1);
        }
    }
}
