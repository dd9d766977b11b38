/** The sentence of "A day" on the gift, part by part: how much it is, who gives it and who gets it. */
final class GiftBoundsTest {
    static void run(Checks c) {
        hundredths(c);
        ofEachBankByItself(c);
        ofEachHearthByItself(c);
        ofEachDayByItself(c);
        aWidowGivesNone(c);
        fewestAtHome(c);
        fewestNotNeediest(c);
        lowestOfSeveral(c);
        poorestAtThatMoment(c);
        atOnceOnTheBank(c);
        atOnceOnTheDay(c);
        ifThereIsOne(c);
        cameHomeIsAll(c);
    }

    private static void hundredths(Checks c) {
        c.section("\"setting 1 hundredths (rounded down ..)\"");
        int[][] carriedHundredthsGift = {{9, 10, 0}, {10, 10, 1}, {19, 10, 1}, {20, 10, 2}, {33, 3, 0}, {34, 3, 1},
            {40, 0, 0}, {40, 1, 0}, {40, 2, 0}, {40, 3, 1}, {5, 50, 2}, {6, 50, 3}, {40, 50, 20}, {40, 49, 19},
            {25, 4, 1}, {24, 4, 0}, {33, 33, 10}};
        for (int[] due : carriedHundredthsGift) {
            PeatHearths x = Ground.pile(0, 1, due[0]);
            x.set(1, due[1]);
            c.due("home", Ground.dayOfRain(x, Ground.IDLE), due[0]);
            String of = due[1] + " hundredths of " + due[0];
            c.due("kept: " + of, x.hearthOf(0, 2), due[0] - due[2]);
            c.due("gave: " + of, x.hearthOf(0, 9), due[2]);
            c.due("was given: " + of, x.hearthOf(0, 8), 0);
            c.due("the widow has: " + of, x.hearthOf(4, 2), due[2]);
            c.due("the widow was given: " + of, x.hearthOf(4, 8), due[2]);
            c.due("the widow gave: " + of, x.hearthOf(4, 9), 0);
        }
        PeatHearths y = new PeatHearths();
        for (int many : new int[] {40, 40, 10}) {
            Ground.cutWet(y, 0, 1, many);
        }
        Ground.dryAll(y);
        y.track(1, 90);
        y.set(1, 50);
        Ground.dayOfRain(y, Ground.IDLE);
        c.due("50 hundredths of 90", y.hearthOf(4, 8), 45);
    }

    private static void ofEachBankByItself(Checks c) {
        c.section("\"rounded down, of each bank by itself\"");
        int[][] carriedAndGift = {{5, 0}, {9, 0}, {10, 3}, {15, 3}, {19, 3}, {20, 6}};
        for (int[] due : carriedAndGift) {
            PeatHearths x = new PeatHearths();
            for (int b = 1; b < 4; b++) {
                Ground.cutWet(x, 0, b, due[0]);
            }
            Ground.dryAll(x);
            c.due("home", Ground.dayOfRain(x, Ground.IDLE), 3 * due[0]);
            c.due("gave of three times " + due[0], x.hearthOf(0, 9), due[1]);
            c.due("kept", x.hearthOf(0, 2), 3 * due[0] - due[1]);
            c.due("the widow has", x.hearthOf(4, 2), due[1]);
        }
    }

    private static void ofEachHearthByItself(Checks c) {
        c.section("\"Of what is carted home by a hearth\"");
        PeatHearths x = new PeatHearths();
        Ground.cutWet(x, 0, 1, 9);
        Ground.cutWet(x, 2, 1, 9);
        Ground.cutWet(x, 3, 1, 12);
        Ground.dryAll(x);
        c.due("home", Ground.dayOfRain(x, Ground.IDLE), 30);
        c.due("0 gave", x.hearthOf(0, 9), 0);
        c.due("2 gave", x.hearthOf(2, 9), 0);
        c.due("3 gave", x.hearthOf(3, 9), 1);
        c.due("the widow has", x.hearthOf(4, 2), 1);
    }

    private static void ofEachDayByItself(Checks c) {
        c.section("the gift of a day");
        PeatHearths x = Ground.pile(0, 1, 38);
        x.track(1, 19);
        c.due("home", Ground.dayOfRain(x, Ground.IDLE), 19);
        c.due("home", Ground.dayOfRain(x, Ground.IDLE), 19);
        c.due("1 and 1 of 19 and 19", x.hearthOf(0, 9), 2);
        c.due("of what is carted, not of what lies there", x.hearthOf(0, 2), 36);
    }

    private static void aWidowGivesNone(Checks c) {
        c.section("\"by a hearth that is no widow's\"");
        PeatHearths x = new PeatHearths();
        x.give(-1, 4, 1, 1);
        Ground.cutWet(x, 4, 1, 40);
        Ground.dryAll(x);
        x.hearth(2, true, 300);
        Ground.dayOfRain(x, Ground.IDLE);
        c.due("the widow keeps all", x.hearthOf(4, 2), 40);
        c.due("it gave", x.hearthOf(4, 9), 0);
        c.due("the other widow got", x.hearthOf(2, 8), 0);
        x.undo();
        x.hearth(4, false, 300);
        Ground.dayOfRain(x, Ground.IDLE);
        c.due("no widow's any more: it gave", x.hearthOf(4, 9), 4);
        c.due("the widow got", x.hearthOf(2, 8), 4);
    }

    /** The hearths 1, 2 and 3 have so many at home; the hearth 0 has 40 dry turves on the bank 1. */
    private static PeatHearths homes(int one, int two, int three) {
        PeatHearths x = new PeatHearths();
        x.set(1, 0);
        Ground.cutWet(x, 1, 0, one);
        Ground.cutWet(x, 2, 3, two);
        Ground.cutWet(x, 3, 2, three);
        Ground.dryAll(x);
        Ground.dayOfRain(x, Ground.IDLE);
        Ground.cutWet(x, 0, 1, 40);
        x.set(2, 1);
        // Each day of snow burns one turf of each hearth that has some.
        Ground.dryAll(x);
        x.set(1, 25);
        return x;
    }

    private static void fewestAtHome(Checks c) {
        c.section("\"go to the widow's hearth that has the fewest turves at home\"");
        int[][] homes = {{33, 34, 35}, {33, 35, 34}, {34, 33, 35}, {35, 33, 34}, {34, 35, 33}, {35, 34, 33}};
        for (int[] has : homes) {
            PeatHearths x = homes(has[0], has[1], has[2]);
            x.hearth(4, false, 300);
            for (int h = 1; h <= 3; h++) {
                x.hearth(h, true, 300);
                c.due("at home of " + h, x.hearthOf(h, 2), has[h - 1] - 30);
            }
            Ground.dayOfRain(x, Ground.IDLE);
            for (int h = 1; h <= 3; h++) {
                c.due("given to " + h, x.hearthOf(h, 8), has[h - 1] == 33 ? 10 : 0);
            }
            c.due("given to 4, that has none but is no widow's", x.hearthOf(4, 8), 0);
        }
    }

    private static void fewestNotNeediest(Checks c) {
        c.section("\"the fewest turves at home\": what it needs, and what lies on banks, does not count");
        PeatHearths x = homes(33, 34, 35);
        for (int h = 1; h <= 3; h++) {
            x.hearth(h, true, h * 300);
        }
        x.hearth(4, false, 300);
        Ground.dayOfRain(x, Ground.IDLE);
        c.due("1 has 3 and needs 300", x.hearthOf(1, 8), 10);
        c.due("3 has 5 and needs 900", x.hearthOf(3, 8), 0);
        x.undo();
        Ground.cutWet(x, 1, 2, 40);
        c.due("1 has 3, and 40 on banks", x.hearthOf(1, 8), 10);
        for (int has = 30; has <= 32; has++) {
            PeatHearths y = homes(has, 35, 36);
            y.hearth(4, false, 300);
            y.hearth(2, true, 300);
            Ground.dayOfRain(y, Ground.IDLE);
            c.due("1 has " + (has - 30) + ", but is no widow's", y.hearthOf(1, 8), 0);
            c.due("2 is a widow's", y.hearthOf(2, 8), 10);
            c.due("2 has", y.hearthOf(2, 2), 15);
        }
    }

    private static void lowestOfSeveral(Checks c) {
        c.section("\"of several the lowest\"");
        int[][] homesAndDue = {{35, 35, 35, 1}, {36, 35, 35, 2}, {35, 35, 36, 1}, {35, 36, 35, 1}, {36, 36, 35, 3}};
        for (int[] has : homesAndDue) {
            PeatHearths x = homes(has[0], has[1], has[2]);
            for (int h = 1; h <= 4; h++) {
                x.hearth(h, h < 4, 300);
            }
            Ground.dayOfRain(x, Ground.IDLE);
            for (int h = 0; h <= 4; h++) {
                c.due("given to " + h, x.hearthOf(h, 8), h == has[3] ? 10 : 0);
            }
        }
        PeatHearths y = Ground.pile(1, 2, 40);
        y.hearth(0, true, 300);
        Ground.dayOfRain(y, Ground.IDLE);
        c.due("0 and 4 have none: given to 0", y.hearthOf(0, 8), 4);
        c.due("given to 4", y.hearthOf(4, 8), 0);
        Ground.cutWet(y, 1, 2, 40);
        Ground.dryAll(y);
        c.due("0 burnt its gift", y.hearthOf(0, 2), 0);
        Ground.dayOfRain(y, Ground.IDLE);
        c.due("0 again", y.hearthOf(0, 8), 8);
    }

    private static void poorestAtThatMoment(Checks c) {
        c.section("the fewest at home at that moment");
        PeatHearths x = new PeatHearths();
        x.hearth(3, true, 300);
        int[] piles = {0, 30, 20, 40};
        for (int b = 1; b < 4; b++) {
            Ground.cutWet(x, 0, b, piles[b]);
        }
        Ground.dryAll(x);
        Ground.dayOfRain(x, Ground.IDLE);
        c.due("3 of the bank 1 to the hearth 3", x.hearthOf(3, 8), 3);
        c.due("2 of the bank 2 and 4 of the bank 3 to the hearth 4", x.hearthOf(4, 8), 6);
        PeatHearths y = new PeatHearths();
        y.hearth(3, true, 300);
        Ground.cutWet(y, 3, 0, 5);
        Ground.cutWet(y, 0, 1, 40);
        Ground.dryAll(y);
        Ground.dayOfRain(y, Ground.IDLE);
        c.due("5 of the bank 0 are home before the gift of the bank 1", y.hearthOf(4, 8), 4);
    }

    /** What a widow carts home herself counts from then on, and not before. */
    private static void atOnceOnTheBank(Checks c) {
        c.section("the fewest at home at that moment: hearth by hearth");
        int[][] dayModulo5AndGifts = {{0, 4, 0}, {1, 4, 0}, {2, 0, 4}, {3, 4, 0}, {4, 4, 0}};
        for (int[] due : dayModulo5AndGifts) {
            PeatHearths x = new PeatHearths();
            x.hearth(2, true, 300);
            Ground.cutWet(x, 1, 0, 40);
            Ground.cutWet(x, 2, 0, 40);
            x.track(0, 80);
            dryOnTheEveOf(x, due[0]);
            c.due("home", Ground.dayOfRain(x, Ground.IDLE), 80);
            String asked = "asked first is " + due[0] + ": ";
            c.due(asked + "given to 2", x.hearthOf(2, 8), due[1]);
            c.due(asked + "given to 4", x.hearthOf(4, 8), due[2]);
            c.due(asked + "2 has", x.hearthOf(2, 2), 40 + due[1]);
            c.due(asked + "1 keeps", x.hearthOf(1, 2), 36);
        }
    }

    private static void atOnceOnTheDay(Checks c) {
        c.section("the fewest at home at that moment: bank by bank");
        for (int dayModulo5 = 0; dayModulo5 < 5; dayModulo5++) {
            for (int bankOfTheWidow : new int[] {0, 1, 3}) {
                PeatHearths x = new PeatHearths();
                x.hearth(2, true, 300);
                Ground.cutWet(x, 1, 2, 40);
                Ground.cutWet(x, 2, bankOfTheWidow, 40);
                dryOnTheEveOf(x, dayModulo5);
                c.due("home", Ground.dayOfRain(x, Ground.IDLE), 80);
                String asked = "2 has turves on " + bankOfTheWidow + ", asked first is " + dayModulo5 + ": ";
                c.due(asked + "given to 2", x.hearthOf(2, 8), bankOfTheWidow > 2 ? 4 : 0);
                c.due(asked + "given to 4", x.hearthOf(4, 8), bankOfTheWidow > 2 ? 0 : 4);
            }
        }
    }

    /** All turves become dry, and the next day modulo 5 is the one that is told. */
    private static void dryOnTheEveOf(PeatHearths x, int dayModulo5) {
        Ground.underSnow(x, 30 + Math.floorMod(dayModulo5 - 1 - x.count(0), 5));
    }

    private static void ifThereIsOne(Checks c) {
        c.section("\"if there is one\"");
        PeatHearths x = Ground.pile(0, 1, 40);
        x.set(1, 50);
        x.hearth(4, false, 300);
        c.due("home", Ground.dayOfRain(x, Ground.IDLE), 40);
        c.due("it keeps all", x.hearthOf(0, 2), 40);
        c.due("it gave", x.hearthOf(0, 9), 0);
        x.undo();
        x.hearth(0, true, 300);
        Ground.dayOfRain(x, Ground.IDLE);
        c.due("the only widow gives nothing to itself", x.hearthOf(0, 9) + x.hearthOf(0, 8), 0);
        c.due("it has", x.hearthOf(0, 2), 40);
    }

    private static void cameHomeIsAll(Checks c) {
        c.section("promise 9: \"how many turves come home in them, to all hearths together\"");
        PeatHearths x = Ground.pile(0, 1, 40);
        x.set(1, 50);
        c.due("with those that are given", Ground.dayOfRain(x, Ground.IDLE), 40);
        c.due("at home, of all", x.count(5), 40);
        c.due("the giver has", x.hearthOf(0, 2), 20);
    }
}
