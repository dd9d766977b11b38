/** Compares answers with those that are due, and counts the ones that are not. */
final class Checks {
    private static final int MOST_PRINTED = 60;

    private int made;
    private int wrong;
    private String section = "";

    interface Call {
        long answer();
    }

    void section(String name) {
        section = name;
    }

    int made() {
        return made;
    }

    int wrong() {
        return wrong;
    }

    void due(String call, long got, long want) {
        made++;
        if (got != want) {
            fail(call + " answered " + got + ", due is " + want);
        }
    }

    void dueDouble(String call, double got, double want) {
        made++;
        if (Double.doubleToLongBits(got) != Double.doubleToLongBits(want)) {
            fail(call + " answered " + got + ", due is " + want);
        }
    }

    void dueText(String call, String got, String want) {
        made++;
        if (!got.equals(want)) {
            fail(call + " answered " + got + ", due is " + want);
        }
    }

    void dueTrue(String what, boolean holds) {
        made++;
        if (!holds) {
            fail(what);
        }
    }

    /** The call throws just this exception, and changes nothing of the object. */
    void dueThrow(String call, PeatHearths x, Class<? extends RuntimeException> want, Call made) {
        long before = x.digest();
        String got = outcome(made);
        this.made++;
        if (!got.equals("throws." + want.getSimpleName())) {
            fail(call + " answered " + got + ", due is throws." + want.getSimpleName());
        } else if (x.digest() != before) {
            fail(call + " threw, and changed something");
        }
    }

    static String outcome(Call call) {
        try {
            return Long.toString(call.answer());
        } catch (RuntimeException e) {
            return "throws." + e.getClass().getSimpleName();
        }
    }

    void fail(String message) {
        wrong++;
        if (wrong <= MOST_PRINTED) {
            System.out.println(section + ": " + message);
        }
    }
}
