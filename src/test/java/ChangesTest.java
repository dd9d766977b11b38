/** Promises 1 to 8 and 10: a new object, and the changes but for days. */
final class ChangesTest {
    private static final Class<IndexOutOfBoundsException> INDEX = IndexOutOfBoundsException.class;
    private static final Class<IllegalArgumentException> ARGUMENT = IllegalArgumentException.class;
    private static final Class<IllegalStateException> STATE = IllegalStateException.class;

    static void run(Checks c) {
        newObject(c);
        hearth(c);
        track(c);
        strength(c);
        work(c);
        workPastShares(c);
        rest(c);
        give(c);
        snow(c);
        set(c);
    }

    private static void newObject(Checks c) {
        c.section("promise 1");
        PeatHearths x = new PeatHearths();
        c.due("NONE", PeatHearths.NONE, -1);
        int[] counts = {0, 0, 0, 8000, 0, 0, 0, 5, 5, 3, 10, 8, 0};
        for (int what = 0; what < counts.length; what++) {
            c.due("count(" + what + ")", x.count(what), counts[what]);
        }
        for (int h = 0; h < 5; h++) {
            int[] numbers = {h == 4 ? 1 : 0, 300, 0, 0, 300, 300, 300, 0, 0, 0, 0, 0};
            for (int what = 0; what < numbers.length; what++) {
                c.due("hearthOf(" + h + ", " + what + ")", x.hearthOf(h, what), numbers[what]);
            }
            for (int b = 0; b < 4; b++) {
                c.due("shares of " + h + " on " + b, x.plot(h, b, 0), h == 4 || h == b ? 0 : 3);
                for (int what = 1; what <= 4; what++) {
                    c.due("plot(" + h + ", " + b + ", " + what + ")", x.plot(h, b, what), 0);
                }
            }
        }
        for (int b = 0; b < 4; b++) {
            int[] numbers = {2000, 40, 3, 0, 0};
            for (int what = 0; what < numbers.length; what++) {
                c.due("bankOf(" + b + ", " + what + ")", x.bankOf(b, what), numbers[what]);
            }
        }
        for (int w = 0; w < 6; w++) {
            int[] numbers = {10 + 2 * w, -1, -1, 0};
            for (int what = 0; what < numbers.length; what++) {
                c.due("cutter(" + w + ", " + what + ")", x.cutter(w, what), numbers[what]);
            }
        }
        c.due("clearBuffer()", x.clearBuffer(), 0);
        c.dueThrow("restore()", x, STATE, () -> x.restore());
        c.dueThrow("undo()", x, STATE, () -> x.undo());
    }

    private static void hearth(Checks c) {
        c.section("promise 2");
        PeatHearths x = new PeatHearths();
        c.due("hearth(0, true, 50)", x.hearth(0, true, 50), 300);
        c.due("it is a widow's", x.hearthOf(0, 0), 1);
        c.due("it needs", x.hearthOf(0, 1), 50);
        c.due("hearth(0, false, 900)", x.hearth(0, false, 900), 50);
        c.due("it is no widow's", x.hearthOf(0, 0), 0);
        c.due("hearth(4, false, 301)", x.hearth(4, false, 301), 300);
        c.due("no widow is left", x.hearthOf(4, 0), 0);
        c.due("hearth 0 still needs", x.hearthOf(0, 1), 900);
        c.due("saved states", x.count(12), 3);
        c.dueThrow("hearth(5, true, 49)", x, INDEX, () -> x.hearth(5, true, 49));
        c.dueThrow("hearth(-1, true, 50)", x, INDEX, () -> x.hearth(-1, true, 50));
        c.dueThrow("hearth(0, true, 49)", x, ARGUMENT, () -> x.hearth(0, true, 49));
        c.dueThrow("hearth(4, false, 901)", x, ARGUMENT, () -> x.hearth(4, false, 901));
    }

    private static void track(Checks c) {
        c.section("promise 3");
        PeatHearths x = new PeatHearths();
        c.due("track(3, 10)", x.track(3, 10), 40);
        c.due("track(3, 90)", x.track(3, 90), 10);
        c.due("it carries", x.bankOf(3, 1), 90);
        c.due("bank 2 carries", x.bankOf(2, 1), 40);
        c.due("saved states", x.count(12), 2);
        c.dueThrow("track(4, 9)", x, INDEX, () -> x.track(4, 9));
        c.dueThrow("track(-1, 10)", x, INDEX, () -> x.track(-1, 10));
        c.dueThrow("track(0, 9)", x, ARGUMENT, () -> x.track(0, 9));
        c.dueThrow("track(0, 91)", x, ARGUMENT, () -> x.track(0, 91));
    }

    private static void strength(Checks c) {
        c.section("promise 4");
        PeatHearths x = new PeatHearths();
        c.due("strength(5, 5)", x.strength(5, 5), 20);
        c.due("strength(5, 40)", x.strength(5, 40), 5);
        c.due("it is", x.cutter(5, 0), 40);
        c.due("cutter 4 has", x.cutter(4, 0), 18);
        c.due("saved states", x.count(12), 2);
        c.dueThrow("strength(6, 4)", x, INDEX, () -> x.strength(6, 4));
        c.dueThrow("strength(-1, 5)", x, INDEX, () -> x.strength(-1, 5));
        c.dueThrow("strength(0, 4)", x, ARGUMENT, () -> x.strength(0, 4));
        c.dueThrow("strength(0, 41)", x, ARGUMENT, () -> x.strength(0, 41));
    }

    private static void work(Checks c) {
        c.section("promise 5");
        PeatHearths x = new PeatHearths();
        c.due("work(5, 3, 2)", x.work(5, 3, 2), 1);
        c.due("work(4, 3, 2)", x.work(4, 3, 2), 2);
        c.due("again at the same place", x.work(4, 3, 2), 2);
        c.due("work(0, 3, 2)", x.work(0, 3, 2), 3);
        c.dueThrow("who is there counts, too", x, STATE, () -> x.work(0, 3, 2));
        c.due("work(0, 3, 1), from other work", x.work(0, 3, 1), 1);
        c.due("left there", x.plot(3, 2, 4), 2);
        c.due("saved states", x.count(12), 5);
        c.dueThrow("no share", x, STATE, () -> x.work(1, 3, 3));
        c.dueThrow("work(6, 3, 3)", x, INDEX, () -> x.work(6, 3, 3));
        c.dueThrow("work(-1, 0, 1)", x, INDEX, () -> x.work(-1, 0, 1));
        c.dueThrow("work(0, 5, 0)", x, INDEX, () -> x.work(0, 5, 0));
        c.dueThrow("work(0, -1, 0)", x, INDEX, () -> x.work(0, -1, 0));
        c.dueThrow("work(0, 0, 4)", x, INDEX, () -> x.work(0, 0, 4));
        c.dueThrow("work(0, 0, -1)", x, INDEX, () -> x.work(0, 0, -1));
        x.snow();
        c.dueThrow("in snow", x, STATE, () -> x.work(0, 3, 2));
    }

    private static void workPastShares(Checks c) {
        c.section("promise 5, more cutters than shares");
        PeatHearths x = new PeatHearths();
        x.work(0, 0, 1);
        x.work(1, 0, 1);
        x.work(2, 0, 1);
        x.give(0, 1, 1, 2);
        c.due("cutters stay", x.plot(0, 1, 4), 3);
        c.due("one share", x.plot(0, 1, 0), 1);
        c.due("reason", x.whyNot(3, 0, 1), 2);
        c.dueThrow("no room", x, STATE, () -> x.work(3, 0, 1));
        c.due("the other hearth has room on the bank", x.work(3, 1, 1), 1);
    }

    private static void rest(Checks c) {
        c.section("promise 6");
        PeatHearths x = new PeatHearths();
        x.work(0, 0, 1);
        x.work(1, 1, 0);
        c.due("rest(0)", x.rest(0), 1);
        c.due("hearth of 0", x.cutter(0, 1), -1);
        c.due("bank of 0", x.cutter(0, 2), -1);
        c.due("hearth of 1", x.cutter(1, 1), 1);
        c.due("rest of one who rests", x.rest(5), 1);
        c.due("rest(1)", x.rest(1), 0);
        c.due("saved states", x.count(12), 5);
        c.dueThrow("rest(6)", x, INDEX, () -> x.rest(6));
        c.dueThrow("rest(-1)", x, INDEX, () -> x.rest(-1));
    }

    private static void give(Checks c) {
        c.section("promise 7");
        PeatHearths x = new PeatHearths();
        c.due("give(0, 4, 1, 2)", x.give(0, 4, 1, 2), 2);
        c.due("left", x.plot(0, 1, 0), 1);
        c.due("from the commons", x.give(-1, 4, 1, 3), 5);
        c.due("commons", x.bankOf(1, 2), 0);
        c.due("to the commons", x.give(4, -1, 1, 4), 4);
        c.due("left", x.plot(4, 1, 0), 1);
        c.due("another bank is as it was", x.plot(0, 2, 0), 3);
        c.due("saved states", x.count(12), 3);
        c.dueThrow("give(-1, 0, 1, 5)", x, STATE, () -> x.give(-1, 0, 1, 5));
        c.dueThrow("give(0, 2, 1, 2)", x, STATE, () -> x.give(0, 2, 1, 2));
        c.dueThrow("give(2, 0, 2, 1)", x, STATE, () -> x.give(2, 0, 2, 1));
        c.dueThrow("give(5, 5, 0, 0)", x, INDEX, () -> x.give(5, 5, 0, 0));
        c.dueThrow("give(-2, 0, 0, 1)", x, INDEX, () -> x.give(-2, 0, 0, 1));
        c.dueThrow("give(0, 5, 0, 1)", x, INDEX, () -> x.give(0, 5, 0, 1));
        c.dueThrow("give(0, -2, 0, 1)", x, INDEX, () -> x.give(0, -2, 0, 1));
        c.dueThrow("give(1, 1, 4, 0)", x, INDEX, () -> x.give(1, 1, 4, 0));
        c.dueThrow("give(0, 1, -1, 1)", x, INDEX, () -> x.give(0, 1, -1, 1));
        c.dueThrow("give(3, 3, 1, 1)", x, ARGUMENT, () -> x.give(3, 3, 1, 1));
        c.dueThrow("give(-1, -1, 1, 12)", x, ARGUMENT, () -> x.give(-1, -1, 1, 12));
        c.dueThrow("give(0, 1, 0, 0)", x, ARGUMENT, () -> x.give(0, 1, 0, 0));
        c.dueThrow("give(0, 1, 0, 13)", x, ARGUMENT, () -> x.give(0, 1, 0, 13));
        for (int h = 1; h < 4; h++) {
            x.give(h, -1, 0, 3);
        }
        c.due("all twelve", x.give(-1, 0, 0, 12), 12);
    }

    private static void snow(Checks c) {
        c.section("promise 8");
        PeatHearths x = new PeatHearths();
        x.work(0, 0, 1);
        x.work(1, 1, 0);
        c.due("it comes", x.snow(), 1);
        c.due("there is snow", x.count(1), 1);
        c.due("all rest", x.count(2), 0);
        c.due("it goes", x.snow(), 0);
        c.due("there is none", x.count(1), 0);
        c.due("they still rest", x.count(2), 0);
        c.due("saved states", x.count(12), 4);
    }

    private static void set(Checks c) {
        c.section("promise 10");
        PeatHearths x = new PeatHearths();
        int[][] bounds = {{0, 9, 3}, {0, 50, 10}, {1, 30, 8}};
        for (int s = 0; s < 3; s++) {
            int setting = s;
            int low = bounds[s][0];
            int high = bounds[s][1];
            c.due("set(" + s + ", lowest)", x.set(s, low), bounds[s][2]);
            c.due("set(" + s + ", highest)", x.set(s, high), low);
            c.due("setting " + s, x.count(9 + s), high);
            c.dueThrow("set(" + s + ", below)", x, ARGUMENT, () -> x.set(setting, low - 1));
            c.dueThrow("set(" + s + ", above)", x, ARGUMENT, () -> x.set(setting, high + 1));
        }
        c.due("saved states", x.count(12), 6);
        c.dueThrow("set(3, 99)", x, INDEX, () -> x.set(3, 99));
        c.dueThrow("set(-1, 0)", x, INDEX, () -> x.set(-1, 0));
    }
}
