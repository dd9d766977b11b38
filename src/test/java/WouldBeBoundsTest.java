/** The sentences of the promises 25 to 29 that name a boundary. */
final class WouldBeBoundsTest {
    static void run(Checks c) {
        oneDayAndSixty(c);
        lackedInThem(c);
        wouldBeShort(c);
        enoughNow(c);
        enoughTomorrow(c);
        enoughOfAWidow(c);
        enoughInSnow(c);
        bestBehindTwentyDays(c);
        bestOfSeveral(c);
        bestOfBanksThatBringNothing(c);
        bestOfThosePossible(c);
        drynessBounds(c);
        digestOfTheCutterZero(c);
        digestOfTheBuffer(c);
        digestByHand(c);
    }

    private static void oneDayAndSixty(Checks c) {
        c.section("promise 25: days 1 to 60, what 0");
        PeatHearths x = Ground.pile(0, 1, 40);
        x.set(0, Math.floorMod(Ground.IDLE - 7 * (x.count(0) + 1), 10));
        x.track(1, 10);
        c.due("in 1 day", x.ifPassed(1, 0), 10);
        x.track(1, 39);
        c.due("in 1 day", x.ifPassed(1, 0), 39);
        PeatHearths y = new PeatHearths();
        y.set(1, 0);
        y.strength(0, 40);
        y.work(0, 0, 1);
        for (int days = 1; days <= 60; days++) {
            int told = y.ifPassed(days, 0);
            c.due("in " + days + " days", y.pass(days), told);
            c.due("at home of it", y.hearthOf(0, 2), told);
            y.undo();
        }
    }

    private static void lackedInThem(Checks c) {
        c.section("promise 25: \"turves that would be lacked by all in them\"");
        PeatHearths x = Ground.pile(0, 1, 20);
        x.set(1, 0);
        c.due("without snow", x.ifPassed(60, 2), 0);
        Ground.dayOfRain(x, Ground.IDLE);
        x.snow();
        int[] due = {0, 32, 64, 100, 140, 180};
        for (int days = 1; days <= 5; days++) {
            c.due("in " + days + " days", x.ifPassed(days, 2), due[days]);
        }
        x.pass(2);
        c.due("behind 2 days: in 1 day", x.ifPassed(1, 2), 36);
        c.due("in 60 days", x.ifPassed(60, 2), 60 * 40 - 4);
        c.due("nothing comes home in snow", x.ifPassed(60, 0), 0);
    }

    private static void wouldBeShort(Checks c) {
        c.section("promise 25: \"hearths that would be short\"");
        PeatHearths x = new PeatHearths();
        x.set(1, 0);
        Ground.cutWet(x, 0, 1, 40);
        Ground.cutWet(x, 0, 2, 20);
        Ground.dryAll(x);
        x.set(0, Math.floorMod(Ground.IDLE - 7 * (x.count(0) + 1), 10));
        int[][] needAndShort = {{50, 4}, {59, 4}, {60, 4}, {61, 5}, {62, 5}};
        for (int[] due : needAndShort) {
            x.hearth(0, false, due[0]);
            c.due("needs " + due[0], x.ifPassed(1, 1), due[1]);
            c.due("now", x.count(7), 5);
        }
        x.hearth(0, false, 60);
        x.pass(1);
        c.due("just enough", x.count(7), 4);
        x.snow();
        c.due("burnt in one day", x.ifPassed(1, 1), 5);
    }

    private static void enoughNow(Checks c) {
        c.section("promise 26: \"0 if it has so now\"");
        PeatHearths x = new PeatHearths();
        x.set(1, 0);
        Ground.cutWet(x, 0, 1, 40);
        Ground.cutWet(x, 0, 2, 30);
        Ground.dryAll(x);
        Ground.dayOfRain(x, Ground.IDLE);
        c.due("it has", x.hearthOf(0, 2), 70);
        int[][] needAndDays = {{50, 0}, {69, 0}, {70, 0}, {71, -1}, {900, -1}};
        for (int[] due : needAndDays) {
            x.hearth(0, false, due[0]);
            c.due("has 70, needs " + due[0], x.enoughIn(0), due[1]);
        }
    }

    private static void enoughTomorrow(Checks c) {
        c.section("promise 26: \"behind how many days\"");
        int[][] cartsAndNeed = {{30, 50}, {30, 60}, {30, 61}, {30, 90}, {60, 60}, {60, 61}, {59, 60}, {90, 90}};
        for (int[] due : cartsAndNeed) {
            PeatHearths x = ninetyDry(due[0]);
            x.hearth(0, false, due[1]);
            int days = x.enoughIn(0);
            c.due(due[0] + " a day, needs " + due[1], days, daysByHand(x, due[1]));
            c.dueTrue("behind one day only by as many carts", (days == 1) == (due[0] >= due[1]));
        }
    }

    /** The hearth 0 has 90 dry turves on the bank 1, and the next day is idle. */
    private static PeatHearths ninetyDry(int carts) {
        PeatHearths x = new PeatHearths();
        x.set(1, 0);
        for (int many : new int[] {40, 40, 10}) {
            Ground.cutWet(x, 0, 1, many);
        }
        Ground.dryAll(x);
        x.track(1, carts);
        x.set(0, Math.floorMod(Ground.IDLE - 7 * (x.count(0) + 1), 10));
        return x;
    }

    /** The due number of days, told by passing them and taking them back. */
    private static int daysByHand(PeatHearths x, int need) {
        for (int days = 1; days <= 60; days++) {
            x.pass(days);
            int home = x.hearthOf(0, 2);
            x.undo();
            if (home >= need) {
                return days;
            }
        }
        return PeatHearths.NONE;
    }

    private static void enoughOfAWidow(Checks c) {
        c.section("promise 26: a widow's, by gifts");
        PeatHearths x = new PeatHearths();
        x.set(1, 50);
        x.hearth(4, true, 50);
        x.strength(0, 40);
        x.work(0, 0, 1);
        int told = x.enoughIn(4);
        c.dueTrue("behind " + told + " days", told > 1);
        x.pass(told - 1);
        c.dueTrue("not before", x.hearthOf(4, 2) < 50);
        c.due("then 1 is left", x.enoughIn(4), 1);
        x.pass(1);
        c.dueTrue("it has so", x.hearthOf(4, 2) >= 50);
        c.due("now", x.enoughIn(4), 0);
    }

    private static void enoughInSnow(Checks c) {
        c.section("promise 26: \"NONE if not in 200\", \"if only days pass\"");
        PeatHearths x = Ground.pile(0, 1, 40);
        x.set(1, 0);
        x.hearth(0, false, 50);
        x.work(0, 0, 1);
        c.dueTrue("without snow", x.enoughIn(0) > 0);
        x.snow();
        for (int h = 0; h < 5; h++) {
            c.due("snow does not go by itself", x.enoughIn(h), -1);
        }
    }

    /** On the bank 1 a few turves are quick; on the bank 3 a widow's dry ones fill the carts but on each fifth day. */
    private static PeatHearths quickOrSteady(int rain, int dayModulo5) {
        PeatHearths x = new PeatHearths();
        Ground.leave(x, 2, 1, 35);
        x.give(0, -1, 2, 3);
        x.give(-1, 4, 3, 3);
        x.track(3, 10);
        x.strength(5, 40);
        x.work(5, 4, 3);
        x.pass(25);
        x.rest(5);
        Ground.dryAll(x);
        x.track(1, 90);
        x.set(1, 0);
        x.strength(0, 40);
        for (int step = 0; step < 5 && x.count(0) % 5 != dayModulo5; step++) {
            Ground.underSnow(x, 1);
        }
        x.set(0, rain);
        return x;
    }

    private static int bestByHand(PeatHearths x, int days) {
        int best = PeatHearths.NONE;
        int most = -1;
        for (int bank = 0; bank < 4; bank++) {
            if (x.whyNot(0, 0, bank) == 0) {
                x.work(0, 0, bank);
                x.pass(days);
                int home = x.hearthOf(0, 2);
                x.undo();
                x.undo();
                best = home > most ? bank : best;
                most = Math.max(most, home);
            }
        }
        return best;
    }

    private static void bestBehindTwentyDays(Checks c) {
        c.section("promise 27: \"behind 20 days\"");
        int otherBehind19 = 0;
        int otherBehind21 = 0;
        for (int rain = 0; rain <= 9; rain++) {
            for (int day = 0; day < 5; day++) {
                PeatHearths x = quickOrSteady(rain, day);
                int due = bestByHand(x, 20);
                c.due("rain " + rain + ", day " + day, x.bestBank(0, 0), due);
                otherBehind19 += bestByHand(x, 19) != due ? 1 : 0;
                otherBehind21 += bestByHand(x, 21) != due ? 1 : 0;
            }
        }
        c.dueTrue("behind 19 days it would be another one at times", otherBehind19 > 0);
        c.dueTrue("behind 21 days it would be another one at times", otherBehind21 > 0);
    }

    private static void bestOfSeveral(Checks c) {
        c.section("promise 27: \"of several the lowest\"");
        PeatHearths x = new PeatHearths();
        for (int h = 0; h < 4; h++) {
            c.due("all alike for " + h, x.bestBank(0, h), h == 0 ? 1 : 0);
        }
        x.give(0, -1, 1, 3);
        c.due("the lowest of 2 and 3", x.bestBank(0, 0), 2);
        x.give(0, -1, 2, 3);
        c.due("only 3", x.bestBank(0, 0), 3);
    }

    /** On the banks 2 and 3 one turf is not cut, and a widow's dry ones fill the carts. */
    private static PeatHearths fullCarts(int rain) {
        PeatHearths x = new PeatHearths();
        x.give(0, -1, 1, 3);
        for (int b = 2; b < 4; b++) {
            x.give(-1, 4, b, 3);
            x.track(b, 10);
            Ground.leave(x, 4, b, 1);
        }
        Ground.dryAll(x);
        x.set(0, rain);
        return x;
    }

    private static void bestOfBanksThatBringNothing(Checks c) {
        c.section("promise 27: a bank that brings nothing is one, too");
        int nothing = 0;
        for (int rain = 0; rain <= 9; rain++) {
            PeatHearths x = fullCarts(rain);
            x.work(0, 0, 2);
            x.pass(20);
            int home = x.hearthOf(0, 2);
            x.undo();
            x.undo();
            nothing += home == 0 ? 1 : 0;
            c.due("bestBank(0, 0) that brings " + home, x.bestBank(0, 0), bestByHand(x, 20));
            c.dueTrue("there is one", x.bestBank(0, 0) >= 2);
        }
        c.dueTrue("at times none comes home", nothing > 0);
    }

    private static void bestOfThosePossible(Checks c) {
        c.section("promise 27: \"of the banks on which the cutter could be set to work for it\", \"NONE if there is none\"");
        PeatHearths x = new PeatHearths();
        x.track(1, 90);
        x.strength(0, 40);
        x.set(1, 0);
        c.due("the wide track", x.bestBank(0, 2), 1);
        for (int w = 3; w < 6; w++) {
            x.work(w, 2, 1);
        }
        c.due("no room there any more", x.bestBank(0, 2), 0);
        c.due("nor for one who is there", x.bestBank(3, 2), 0);
        c.due("a hearth without shares", x.bestBank(0, 4), -1);
        x.give(-1, 4, 3, 1);
        c.due("with one share", x.bestBank(0, 4), 3);
        x.snow();
        for (int h = 0; h < 5; h++) {
            c.due("in snow", x.bestBank(0, h), -1);
        }
        PeatHearths y = new PeatHearths();
        Ground.leave(y, 2, 0, 0);
        c.due("nothing to cut on the bank 0", y.bestBank(0, 1), 2);
        y.give(1, -1, 2, 3);
        c.due("only the banks 0 and 3", y.bestBank(0, 1), 3);
        y.give(1, -1, 3, 3);
        c.due("only the bank 0, and nothing to cut there", y.bestBank(0, 1), -1);
    }

    private static void drynessBounds(Checks c) {
        c.section("promise 28: \"the dry ones, as a double, divided by all turves on banks; 1.0 without any\"");
        PeatHearths x = new PeatHearths();
        c.dueDouble("without any", x.dryness(), 1.0);
        Ground.cutWet(x, 0, 1, 12);
        c.dueDouble("none of 12", x.dryness(), 0.0);
        Ground.underSnow(x, 1);
        c.dueDouble("footed ones are not dry", x.dryness(), 0.0);
        int[] dry = {3, 6, 8, 10, 11, 12};
        for (int many : dry) {
            Ground.underSnow(x, 1);
            c.dueDouble(many + " of 12", x.dryness(), many / 12.0);
        }
        Ground.cutWet(x, 2, 3, 7);
        c.dueDouble("those of the bank 1 are home, and 7 wet", x.dryness(), 0.0);
        Ground.cutWet(x, 1, 0, 40);
        Ground.underSnow(x, 4);
        int all = 47;
        int dryNow = x.plot(2, 3, 3) + x.plot(1, 0, 3);
        c.due("turves on banks", x.count(4), all);
        c.dueDouble("of all hearths and banks together", x.dryness(), (double) dryNow / all);
        Ground.dryAll(x);
        c.dueDouble("all", x.dryness(), 1.0);
        x.track(0, 90);
        Ground.dayOfRain(x, Ground.IDLE);
        c.dueDouble("without any again", x.dryness(), 1.0);
    }

    private static void digestOfTheCutterZero(Checks c) {
        c.section("promise 29: \"bestBank of the cutter 0\"");
        PeatHearths x = new PeatHearths();
        x.track(1, 10);
        x.track(2, 90);
        x.strength(0, 5);
        x.strength(1, 40);
        c.dueTrue("the cutters 0 and 1 differ", x.bestBank(0, 0) != x.bestBank(1, 0));
        c.due("digest()", x.digest(), WouldBeTest.digestOf(x, ""));
    }

    private static void digestOfTheBuffer(Checks c) {
        c.section("promise 29: \"the length of the buffer and each of its character codes\"");
        StringBuilder text = new StringBuilder();
        for (int n = 0; n < 60; n++) {
            text.append((char) (n % 2 == 0 ? 33 + n : 126 - n));
            PeatHearths x = new PeatHearths();
            Calls.type(x, text.toString());
            c.due("digest() with " + text, x.digest(), WouldBeTest.digestOf(x, text.toString()));
            x.clearBuffer();
            c.due("with an empty buffer", x.digest(), new PeatHearths().digest());
        }
    }

    /** The values of a new object in their order, told by hand. */
    private static void digestByHand(Checks c) {
        c.section("promise 29: \"The hash starts at 3739\"");
        long hash = added(3739L, 0, 0, 0, 8000, 0, 0, 0, 5, 5, 3, 10, 8, 0);
        for (int h = 0; h < 5; h++) {
            hash = added(hash, h == 4 ? 1 : 0, 300, 0, 0, 300, 300, 300, 0, 0, 0, 0, 0);
            for (int b = 0; b < 4; b++) {
                hash = added(hash, h == 4 || h == b ? 0 : 3, 0, 0, 0, 0);
            }
            hash = added(hash, -1, h == 0 ? 1 : h == 4 ? -1 : 0);
        }
        for (int b = 0; b < 4; b++) {
            hash = added(hash, 2000, 40, 3, 0, 0);
        }
        for (int w = 0; w < 6; w++) {
            hash = added(hash, 10 + 2 * w, -1, -1, 0);
        }
        hash = added(hash, 3, 0, 7, 4, 1, 8, 5, 2, 9, 6);
        hash = added(hash, 0, 5, 0);
        hash = added(hash, 0x3FF0000000000000L, 0);
        c.due("of a new object", new PeatHearths().digest(), hash);
    }

    private static long added(long hash, long... values) {
        long all = hash;
        for (long value : values) {
            all = 31 * all + value;
        }
        return all;
    }
}
