/** Counts and prints the answers that are not due. */
final class Checks {
    interface Call {
        Object answer();
    }

    private int wrong;
    private int all;

    /** Checks an answer: a number, a letter, a truth, or the class of the exception that is due. */
    void due(String name, Call call, Object want) {
        all++;
        Object got;
        try {
            got = call.answer();
        } catch (RuntimeException e) {
            got = e.getClass();
        }
        if (!isSame(got, want)) {
            wrong++;
            System.out.println(name + " answered " + got + ", due is " + want);
        }
    }

    private static boolean isSame(Object got, Object want) {
        boolean areWhole = isWhole(got) && isWhole(want);
        return areWhole ? ((Number) got).longValue() == ((Number) want).longValue() : got.equals(want);
    }

    private static boolean isWhole(Object value) {
        return value instanceof Integer || value instanceof Long;
    }

    void finish(String test) {
        System.out.println(test + ": " + all + " answers, " + wrong + " not as due");
        if (wrong != 0 || all == 0) System.exit(1);
    }
}
