/**
 * Two objects with the same past: one makes a call that has to change nothing, then both are looked through,
 * down to the oldest saved state and to the snapshot. Both are used up by that.
 */
final class Twins {
    private static final int MOST_SAVED = 6;

    final PeatHearths x;
    private final PeatHearths twin;

    private Twins(PeatHearths x, PeatHearths twin) {
        this.x = x;
        this.twin = twin;
    }

    /** Objects that have just been made: nothing is saved, and nothing kept. */
    static Twins fresh() {
        return new Twins(new PeatHearths(), new PeatHearths());
    }

    /** Objects with six saved states that all differ, a snapshot that differs from them, and a text. */
    static Twins lived() {
        return new Twins(past(), past());
    }

    /** As lived, but there is snow now. */
    static Twins snowy() {
        Twins both = lived();
        both.x.snow();
        both.twin.snow();
        return both;
    }

    /** As lived, but with a buffer of 60 characters. */
    static Twins full() {
        Twins both = lived();
        fill(both.x);
        fill(both.twin);
        return both;
    }

    private static PeatHearths past() {
        PeatHearths x = new PeatHearths();
        x.work(0, 0, 1);
        x.work(3, 1, 0);
        x.work(5, 2, 1);
        x.pass(17);
        x.snow();
        x.pass(2);
        x.keep();
        x.snow();
        x.work(1, 3, 2);
        x.hearth(3, true, 450);
        x.set(1, 33);
        x.track(2, 25);
        x.give(0, 4, 1, 2);
        x.pass(11);
        x.strength(4, 31);
        Calls.type(x, "+5;c");
        return x;
    }

    private static void fill(PeatHearths x) {
        x.clearBuffer();
        for (int n = 0; n < 60; n++) {
            x.append(n % 2 == 0 ? '*' : ';');
        }
    }

    /** Nothing of the one that was called differs from the other one. */
    void dueAlike(Checks c, String call) {
        c.due(call + ": the state", x.digest(), twin.digest());
        c.due(call + ": the first error", x.firstError(), twin.firstError());
        for (int n = 0; n <= MOST_SAVED; n++) {
            String left = Checks.outcome(() -> x.undo());
            c.dueText(call + ": undo", left, Checks.outcome(() -> twin.undo()));
            c.due(call + ": the saved state behind " + left, x.digest(), twin.digest());
        }
        c.dueText(call + ": restore", Checks.outcome(() -> x.restore()), Checks.outcome(() -> twin.restore()));
        c.due(call + ": the snapshot", x.digest(), twin.digest());
    }
}
