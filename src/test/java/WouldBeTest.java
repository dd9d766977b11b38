/** Promises 25 to 29: what would be, dryness and the digest. */
final class WouldBeTest {
    private static final Class<IndexOutOfBoundsException> INDEX = IndexOutOfBoundsException.class;
    private static final Class<IllegalArgumentException> ARGUMENT = IllegalArgumentException.class;

    static void run(Checks c) {
        ifPassed(c);
        enoughIn(c);
        enoughAtTheEdge(c);
        bestBank(c);
        bestBankMovesTheCutter(c);
        dryness(c);
        digest(c);
        nothingChanges(c);
        wrongInputs(c);
    }

    private static PeatHearths lived() {
        PeatHearths x = new PeatHearths();
        x.work(0, 0, 1);
        x.work(3, 1, 0);
        x.work(5, 2, 1);
        x.hearth(0, false, 60);
        x.pass(25);
        return x;
    }

    private static void ifPassed(Checks c) {
        c.section("promise 25");
        PeatHearths x = lived();
        for (int round = 0; round < 2; round++) {
            int[] days = {1, 2, 13, 60};
            for (int d : days) {
                int home = x.ifPassed(d, 0);
                int hearthsShort = x.ifPassed(d, 1);
                int lacked = x.ifPassed(d, 2);
                int lackedBefore = lacked(x);
                c.due("pass(" + d + ")", x.pass(d), home);
                c.due("hearths that are short", x.count(7), hearthsShort);
                c.due("lacked in them", lacked(x) - lackedBefore, lacked);
                c.dueTrue("there is something to tell", round == 0 ? d < 13 || home > 0 : lacked > 0);
                x.undo();
            }
            x.snow();
        }
        PeatHearths y = new PeatHearths();
        y.snow();
        c.due("lacked by 5 hearths in 60 days", y.ifPassed(60, 2), 5 * 60 * 8);
        y.pass(60);
        c.due("only what is lacked in them", y.ifPassed(1, 2), 40);
    }

    private static int lacked(PeatHearths x) {
        int sum = 0;
        for (int h = 0; h < 5; h++) {
            sum += x.hearthOf(h, 11);
        }
        return sum;
    }

    private static void enoughIn(Checks c) {
        c.section("promise 26");
        PeatHearths x = lived();
        for (int h = 0; h < 5; h++) {
            PeatHearths y = lived();
            int due = -1;
            int need = y.hearthOf(h, 1);
            for (int d = 0; d <= 200 && due < 0; d++) {
                if (y.hearthOf(h, 2) >= need) {
                    due = d;
                }
                y.pass(1);
            }
            c.due("enoughIn(" + h + ")", x.enoughIn(h), due);
        }
        c.due("without any work", x.enoughIn(3), -1);
        c.due("it has so now", x.enoughIn(0), 0);
    }

    /** A hearth that has what it needs on just the 200th day, and one that has it on the 201st. */
    private static void enoughAtTheEdge(Checks c) {
        c.section("promise 26, 200 days");
        int of200 = 0;
        int of201 = 0;
        for (int rain = 0; rain <= 9; rain++) {
            PeatHearths x = slowHearth(rain);
            int[] home = new int[202];
            for (int day = 1; day <= 201; day++) {
                x.pass(1);
                home[day] = x.hearthOf(0, 2);
            }
            if (home[200] > home[199]) {
                PeatHearths y = slowHearth(rain);
                y.hearth(0, false, home[200]);
                c.due("needs what it has on the day 200, rain " + rain, y.enoughIn(0), 200);
                of200++;
            }
            if (home[201] > home[200]) {
                PeatHearths y = slowHearth(rain);
                y.hearth(0, false, home[201]);
                c.due("needs what it has on the day 201, rain " + rain, y.enoughIn(0), -1);
                of201++;
            }
        }
        c.dueTrue("some rains tell of the day 200 and of 201", of200 > 0 && of201 > 0);
    }

    private static PeatHearths slowHearth(int rain) {
        PeatHearths x = new PeatHearths();
        x.set(0, rain);
        x.set(1, 50);
        x.strength(0, 5);
        x.work(0, 0, 1);
        return x;
    }

    private static void bestBank(Checks c) {
        c.section("promise 27");
        PeatHearths x = new PeatHearths();
        c.due("of several the lowest", x.bestBank(0, 0), 1);
        c.due("of several the lowest", x.bestBank(0, 1), 0);
        c.due("no share at all", x.bestBank(0, 4), -1);
        x.give(-1, 4, 2, 1);
        c.due("one share", x.bestBank(0, 4), 2);
        x.strength(0, 40);
        x.track(1, 10);
        x.track(2, 10);
        x.track(3, 90);
        c.due("the track tells", x.bestBank(0, 0), 3);
        x.work(1, 0, 3);
        x.work(2, 0, 3);
        x.work(3, 0, 3);
        c.due("not where there is no room", x.bestBank(0, 0), 1);
        x.rest(3);
        c.due("there again", x.bestBank(0, 0), 3);
        x.snow();
        c.due("none in snow", x.bestBank(0, 0), -1);
    }

    private static void bestBankMovesTheCutter(Checks c) {
        c.section("promise 27, from other work");
        for (int w = 0; w < 6; w++) {
            PeatHearths x = lived();
            x.work(4, 0, 3);
            for (int h = 0; h < 5; h++) {
                int due = -1;
                int most = -1;
                for (int b = 0; b < 4; b++) {
                    if (x.whyNot(w, h, b) == 0) {
                        x.work(w, h, b);
                        x.pass(20);
                        int home = x.hearthOf(h, 2);
                        x.undo();
                        x.undo();
                        due = home > most ? b : due;
                        most = Math.max(most, home);
                    }
                }
                c.due("bestBank(" + w + ", " + h + ")", x.bestBank(w, h), due);
            }
        }
        PeatHearths y = new PeatHearths();
        y.give(0, -1, 2, 3);
        y.give(0, -1, 3, 3);
        y.give(0, -1, 1, 2);
        y.work(0, 0, 1);
        c.due("who is there already counts", y.bestBank(0, 0), -1);
    }

    private static void dryness(Checks c) {
        c.section("promise 28");
        PeatHearths x = new PeatHearths();
        c.dueDouble("without any", x.dryness(), 1.0);
        x.work(0, 0, 1);
        x.pass(1);
        c.dueDouble("none is dry", x.dryness(), 0.0);
        x.snow();
        x.pass(1);
        c.dueDouble("2 of 10", x.dryness(), 2.0 / 10.0);
        x.pass(40);
        c.dueDouble("all", x.dryness(), 1.0);
    }

    /** The digest as promise 29 tells it, from what the object answers. */
    static long digestOf(PeatHearths x, String buffer) {
        long hash = 3739;
        for (int what = 0; what <= 12; what++) {
            hash = 31 * hash + x.count(what);
        }
        for (int h = 0; h < 5; h++) {
            for (int what = 0; what <= 11; what++) {
                hash = 31 * hash + x.hearthOf(h, what);
            }
            for (int b = 0; b < 4; b++) {
                for (int what = 0; what <= 4; what++) {
                    hash = 31 * hash + x.plot(h, b, what);
                }
            }
            hash = 31 * hash + x.enoughIn(h);
            hash = 31 * hash + x.bestBank(0, h);
        }
        for (int b = 0; b < 4; b++) {
            for (int what = 0; what <= 4; what++) {
                hash = 31 * hash + x.bankOf(b, what);
            }
        }
        for (int w = 0; w < 6; w++) {
            for (int what = 0; what <= 3; what++) {
                hash = 31 * hash + x.cutter(w, what);
            }
        }
        for (int day = 0; day <= 9; day++) {
            hash = 31 * hash + x.rain(day);
        }
        for (int what = 0; what <= 2; what++) {
            hash = 31 * hash + x.ifPassed(10, what);
        }
        hash = 31 * hash + Double.doubleToLongBits(x.dryness());
        hash = 31 * hash + buffer.length();
        for (int i = 0; i < buffer.length(); i++) {
            hash = 31 * hash + buffer.charAt(i);
        }
        return hash;
    }

    private static void digest(Checks c) {
        c.section("promise 29");
        for (int day = 0; day <= 80; day++) {
            PeatHearths x = dayWithSnowAtTimes(day);
            c.due("on the day " + day, x.digest(), digestOf(x, ""));
        }
        PeatHearths x = dayWithSnowAtTimes(30);
        String text = "c0>~!z";
        Calls.type(x, text);
        c.due("with a buffer", x.digest(), digestOf(x, text));
    }

    /** Snow comes and goes by 20 days. */
    private static PeatHearths dayWithSnowAtTimes(int day) {
        PeatHearths x = new PeatHearths();
        x.work(0, 0, 1);
        for (int n = 1; n <= day; n++) {
            x.pass(1);
            if (n % 20 == 0) {
                x.snow();
            }
        }
        return x;
    }

    private static void nothingChanges(Checks c) {
        c.section("promises 18 to 29 change nothing");
        PeatHearths x = lived();
        Calls.type(x, "+5");
        long before = x.digest();
        int saved = x.count(12);
        x.ifPassed(60, 0);
        x.enoughIn(1);
        x.bestBank(4, 2);
        x.dryness();
        x.whyNot(0, 0, 1);
        x.firstError();
        c.due("digest()", x.digest(), before);
        c.due("saved states", x.count(12), saved);
    }

    private static void wrongInputs(Checks c) {
        c.section("promises 25 to 27, wrong inputs");
        PeatHearths x = lived();
        c.dueThrow("ifPassed(0, 0)", x, ARGUMENT, () -> x.ifPassed(0, 0));
        c.dueThrow("ifPassed(61, 0)", x, ARGUMENT, () -> x.ifPassed(61, 0));
        c.dueThrow("ifPassed(1, 3)", x, ARGUMENT, () -> x.ifPassed(1, 3));
        c.dueThrow("ifPassed(1, -1)", x, ARGUMENT, () -> x.ifPassed(1, -1));
        c.dueThrow("enoughIn(5)", x, INDEX, () -> x.enoughIn(5));
        c.dueThrow("enoughIn(-1)", x, INDEX, () -> x.enoughIn(-1));
        c.dueThrow("bestBank(6, 0)", x, INDEX, () -> x.bestBank(6, 0));
        c.dueThrow("bestBank(-1, 0)", x, INDEX, () -> x.bestBank(-1, 0));
        c.dueThrow("bestBank(0, 5)", x, INDEX, () -> x.bestBank(0, 5));
        c.dueThrow("bestBank(0, -1)", x, INDEX, () -> x.bestBank(0, -1));
    }
}
