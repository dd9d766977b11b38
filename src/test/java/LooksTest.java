/** Promises 18 to 24: looks. */
final class LooksTest {
    private static final Class<IndexOutOfBoundsException> INDEX = IndexOutOfBoundsException.class;
    private static final Class<IllegalArgumentException> ARGUMENT = IllegalArgumentException.class;

    static void run(Checks c) {
        numbers(c);
        sums(c);
        rain(c);
        whyNot(c);
        wrongInputs(c);
    }

    /** Two days of a cutter of strength 40 for the hearth 1 on the bank 0; 20 of its turves are home. */
    private static PeatHearths lived() {
        PeatHearths x = new PeatHearths();
        x.set(1, 25);
        x.strength(2, 40);
        x.work(2, 1, 0);
        x.pass(1);
        x.set(0, 9);
        x.pass(1);
        x.snow();
        x.pass(1);
        return x;
    }

    private static void numbers(Checks c) {
        c.section("promises 18 to 21 and 23");
        PeatHearths x = lived();
        // Day 1: wet 20, footed 20. Day 2 of rain 3: 80 cut; 7 dry, wet 30, footed 43; 6 stay of the 7, 1 is given.
        // Day 3 of snow: 15 dry, wet 15, footed 43; the 6 are burnt, and 2 are lacked.
        int[] one = {0, 300, 0, 73, 300, 227, 227, 80, 0, 1, 6, 2};
        int[] widow = {1, 300, 0, 0, 300, 300, 300, 0, 1, 0, 1, 7};
        for (int what = 0; what < 12; what++) {
            c.due("hearthOf(1, " + what + ")", x.hearthOf(1, what), one[what]);
            c.due("hearthOf(4, " + what + ")", x.hearthOf(4, what), widow[what]);
        }
        int[] bank = {1920, 40, 3, 0, 73};
        for (int what = 0; what < 5; what++) {
            c.due("bankOf(0, " + what + ")", x.bankOf(0, what), bank[what]);
        }
        c.due("wet", x.plot(1, 0, 1), 15);
        c.due("footed", x.plot(1, 0, 2), 43);
        c.due("dry", x.plot(1, 0, 3), 15);
        c.due("shares", x.plot(1, 0, 0), 3);
        c.due("another plot", x.plot(0, 1, 1), 0);
        int[] counts = {3, 1, 0, 7920, 73, 0, 7, 5, 5, 9, 25, 8, 6};
        for (int what = 0; what < 13; what++) {
            c.due("count(" + what + ")", x.count(what), counts[what]);
        }
        int[] cutter = {40, -1, -1, 80};
        for (int what = 0; what < 4; what++) {
            c.due("cutter(2, " + what + ")", x.cutter(2, what), cutter[what]);
        }
        c.dueDouble("dryness()", x.dryness(), 15.0 / 73.0);
    }

    private static void sums(Checks c) {
        c.section("promises 18 to 23, sums");
        PeatHearths x = new PeatHearths();
        x.work(0, 0, 1);
        x.work(1, 0, 1);
        x.work(2, 2, 1);
        x.work(3, 2, 3);
        c.due("at work on the bank 1", x.bankOf(1, 3), 3);
        c.due("at work on the bank 3", x.bankOf(3, 3), 1);
        c.due("at work for 0 on 1", x.plot(0, 1, 4), 2);
        c.due("at work for 2 on 1", x.plot(2, 1, 4), 1);
        c.due("at work", x.count(2), 4);
        c.due("hearth of 3", x.cutter(3, 1), 2);
        c.due("bank of 3", x.cutter(3, 2), 3);
        x.pass(60);
        x.hearth(0, false, 50);
        x.hearth(4, true, 900);
        int home = 0;
        int shortNow = 0;
        int shortLater = 0;
        for (int h = 0; h < 5; h++) {
            int onBanks = 0;
            for (int b = 0; b < 4; b++) {
                onBanks += x.plot(h, b, 1) + x.plot(h, b, 2) + x.plot(h, b, 3);
            }
            int need = x.hearthOf(h, 1);
            int has = x.hearthOf(h, 2);
            c.due("on banks of " + h, x.hearthOf(h, 3), onBanks);
            c.due("short " + h, x.hearthOf(h, 4), Math.max(0, need - has));
            c.due("will be short " + h, x.hearthOf(h, 5), Math.max(0, need - has - onBanks));
            c.due("told the second way " + h, x.hearthOf(h, 6), x.hearthOf(h, 5));
            home += has;
            shortNow += need > has ? 1 : 0;
            shortLater += need > has + onBanks ? 1 : 0;
        }
        c.due("at home", x.count(5), home);
        c.due("hearths that are short", x.count(7), shortNow);
        c.due("hearths that will be short", x.count(8), shortLater);
        c.due("turves add up", x.count(3) + x.count(4) + x.count(5) + x.count(6), 8000);
    }

    private static void rain(Checks c) {
        c.section("promise 22");
        PeatHearths x = new PeatHearths();
        int[] told = {3, 0, 7, 4, 1, 8, 5, 2, 9, 6, 3};
        for (int day = 0; day < told.length; day++) {
            c.due("rain(" + day + ")", x.rain(day), told[day]);
        }
        c.due("rain(2147483647)", x.rain(2147483647), 2);
        c.due("rain(400000001)", x.rain(400000001), 0);
        x.set(0, 9);
        c.due("rain(3), setting 9", x.rain(3), 0);
        x.snow();
        c.due("rain(4), if there is no snow", x.rain(4), 7);
        c.dueThrow("rain(-1)", x, ARGUMENT, () -> x.rain(-1));
    }

    private static void whyNot(Checks c) {
        c.section("promise 24");
        PeatHearths x = new PeatHearths();
        c.due("possible", x.whyNot(0, 0, 1), 0);
        c.due("no share", x.whyNot(0, 0, 0), 1);
        x.give(0, -1, 1, 2);
        x.work(0, 0, 1);
        c.due("as many as shares", x.whyNot(1, 0, 1), 2);
        c.due("also for who is there", x.whyNot(0, 0, 1), 2);
        c.due("not for another hearth", x.whyNot(0, 2, 1), 0);
        x.snow();
        c.due("snow", x.whyNot(1, 0, 1), 4);
        c.due("no share comes before snow", x.whyNot(1, 0, 0), 1);
        x.snow();
        x.work(0, 0, 1);
        x.strength(0, 40);
        x.pass(49);
        c.due("40 are left", x.bankOf(1, 0), 40);
        c.due("possible still", x.whyNot(1, 2, 1), 0);
        x.pass(1);
        c.due("nothing to cut", x.whyNot(1, 2, 1), 3);
        c.due("as many as shares comes before nothing to cut", x.whyNot(1, 0, 1), 2);
        x.snow();
        c.due("nothing to cut comes before snow", x.whyNot(1, 0, 1), 3);
    }

    private static void wrongInputs(Checks c) {
        c.section("promises 18 to 24, wrong inputs");
        PeatHearths x = lived();
        c.dueThrow("hearthOf(5, 12)", x, INDEX, () -> x.hearthOf(5, 12));
        c.dueThrow("hearthOf(-1, 0)", x, INDEX, () -> x.hearthOf(-1, 0));
        c.dueThrow("hearthOf(0, 12)", x, ARGUMENT, () -> x.hearthOf(0, 12));
        c.dueThrow("hearthOf(0, -1)", x, ARGUMENT, () -> x.hearthOf(0, -1));
        c.dueThrow("bankOf(4, 5)", x, INDEX, () -> x.bankOf(4, 5));
        c.dueThrow("bankOf(-1, 0)", x, INDEX, () -> x.bankOf(-1, 0));
        c.dueThrow("bankOf(0, 5)", x, ARGUMENT, () -> x.bankOf(0, 5));
        c.dueThrow("bankOf(0, -1)", x, ARGUMENT, () -> x.bankOf(0, -1));
        c.dueThrow("plot(5, 0, 5)", x, INDEX, () -> x.plot(5, 0, 5));
        c.dueThrow("plot(-1, 0, 0)", x, INDEX, () -> x.plot(-1, 0, 0));
        c.dueThrow("plot(0, 4, 5)", x, INDEX, () -> x.plot(0, 4, 5));
        c.dueThrow("plot(0, -1, 0)", x, INDEX, () -> x.plot(0, -1, 0));
        c.dueThrow("plot(0, 0, 5)", x, ARGUMENT, () -> x.plot(0, 0, 5));
        c.dueThrow("plot(0, 0, -1)", x, ARGUMENT, () -> x.plot(0, 0, -1));
        c.dueThrow("cutter(6, 4)", x, INDEX, () -> x.cutter(6, 4));
        c.dueThrow("cutter(-1, 0)", x, INDEX, () -> x.cutter(-1, 0));
        c.dueThrow("cutter(0, 4)", x, ARGUMENT, () -> x.cutter(0, 4));
        c.dueThrow("cutter(0, -1)", x, ARGUMENT, () -> x.cutter(0, -1));
        c.dueThrow("rain(least)", x, ARGUMENT, () -> x.rain(Integer.MIN_VALUE));
        c.dueThrow("count(13)", x, ARGUMENT, () -> x.count(13));
        c.dueThrow("count(-1)", x, ARGUMENT, () -> x.count(-1));
        c.dueThrow("whyNot(6, 0, 0)", x, INDEX, () -> x.whyNot(6, 0, 0));
        c.dueThrow("whyNot(-1, 0, 0)", x, INDEX, () -> x.whyNot(-1, 0, 0));
        c.dueThrow("whyNot(0, 5, 0)", x, INDEX, () -> x.whyNot(0, 5, 0));
        c.dueThrow("whyNot(0, -1, 0)", x, INDEX, () -> x.whyNot(0, -1, 0));
        c.dueThrow("whyNot(0, 0, 4)", x, INDEX, () -> x.whyNot(0, 0, 4));
        c.dueThrow("whyNot(0, 0, -1)", x, INDEX, () -> x.whyNot(0, 0, -1));
    }
}
