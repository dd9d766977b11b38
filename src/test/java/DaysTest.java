/** Promise 9, and what "A day" tells, each rule on numbers told by hand. */
final class DaysTest {
    private static final Class<IllegalArgumentException> ARGUMENT = IllegalArgumentException.class;

    static void run(Checks c) {
        wrongDays(c);
        cutAndDry(c);
        rainWets(c);
        cutsWhatIsLeft(c);
        cartsGoAround(c);
        giftToThePoorest(c);
        noWidow(c);
        snowDays(c);
        dryingUnderSnow(c);
    }

    private static void wrongDays(Checks c) {
        c.section("promise 9, days");
        PeatHearths x = new PeatHearths();
        c.dueThrow("pass(0)", x, ARGUMENT, () -> x.pass(0));
        c.dueThrow("pass(-1)", x, ARGUMENT, () -> x.pass(-1));
        c.dueThrow("pass(61)", x, ARGUMENT, () -> x.pass(61));
        c.due("pass(60)", x.pass(60), 0);
        c.due("the day", x.count(0), 60);
        c.due("pass(1)", x.pass(1), 0);
        c.due("the day", x.count(0), 61);
        c.due("saved states", x.count(12), 2);
        c.due("undo takes back one call", x.undo(), 1);
        c.due("the day", x.count(0), 60);
    }

    private static void plot(Checks c, PeatHearths x, String when, int[] wetFootedDry) {
        for (int what = 1; what <= 3; what++) {
            c.due(when + ": plot(0, 1, " + what + ")", x.plot(0, 1, what), wetFootedDry[what - 1]);
        }
    }

    private static void cutAndDry(Checks c) {
        c.section("promise 9, cutting and drying");
        PeatHearths x = new PeatHearths();
        x.hearth(4, false, 300);
        x.strength(0, 11);
        x.work(0, 0, 1);
        c.due("day 1, rain 0: home", x.pass(1), 0);
        plot(c, x, "day 1: 11 are cut, 6 of them footed", new int[] {5, 6, 0});
        c.due("day 2, rain 7: home", x.pass(1), 0);
        plot(c, x, "day 2: 11 more are cut, 3 footed ones are wet", new int[] {19, 3, 0});
        c.due("day 3, rain 4: home", x.pass(1), 0);
        plot(c, x, "day 3: 11 more, nothing dries", new int[] {30, 3, 0});
        c.due("day 4, rain 1: home", x.pass(1), 2);
        plot(c, x, "day 4: 41 wet, 21 footed; of 3 footed 2 were dry", new int[] {20, 22, 0});
        c.due("at home", x.hearthOf(0, 2), 2);
        c.due("cut by the cutter", x.cutter(0, 3), 44);
        c.due("cut for the hearth", x.hearthOf(0, 7), 44);
        c.due("not cut", x.bankOf(1, 0), 1956);
        c.due("other banks", x.bankOf(0, 0), 2000);
    }

    private static void rainWets(Checks c) {
        c.section("promise 9, rain wets");
        PeatHearths x = new PeatHearths();
        x.set(0, 4);
        x.track(1, 10);
        x.strength(0, 40);
        x.work(0, 0, 1);
        x.pass(1);
        plot(c, x, "day 1, rain 1", new int[] {20, 20, 0});
        x.rest(0);
        x.set(0, 9);
        x.pass(1);
        plot(c, x, "day 2, rain 3", new int[] {10, 23, 0});
        c.due("7 dry ones are home", x.hearthOf(0, 2) + x.hearthOf(4, 2), 7);
        x.set(0, 0);
        c.due("day 3, rain 1: 8 come home", x.pass(1), 8);
        plot(c, x, "day 3, rain 1", new int[] {5, 20, 0});
        x.set(0, 2);
        c.due("day 4, rain 0: 7 home", x.pass(1), 7);
        plot(c, x, "day 4", new int[] {2, 16, 0});
        x.set(0, 6);
        c.due("day 5, rain 1: 6 home", x.pass(1), 6);
        plot(c, x, "day 5", new int[] {1, 11, 0});
        x.set(0, 5);
        x.pass(1);
        plot(c, x, "day 6, rain 7: 6 footed ones are wet", new int[] {7, 5, 0});
        x.snow();
        x.pass(1);
        plot(c, x, "day 7, snow: 2 are dry, and stay", new int[] {3, 7, 2});
        x.pass(1);
        plot(c, x, "day 8, snow", new int[] {1, 6, 5});
        x.snow();
        x.set(0, 6);
        c.due("day 9, rain 9: the carts take what is dry still", x.pass(1), 2);
        plot(c, x, "day 9: 3 dry and 3 footed are wet, 2 are home", new int[] {7, 3, 0});
        x.set(0, 6);
        x.pass(1);
        plot(c, x, "day 10, rain 6: nothing", new int[] {7, 3, 0});
    }

    private static void cutsWhatIsLeft(Checks c) {
        c.section("promise 9, what is left of a bank");
        PeatHearths x = new PeatHearths();
        for (int w = 0; w < 6; w++) {
            x.strength(w, 40);
        }
        x.strength(5, 35);
        for (int w = 0; w < 3; w++) {
            x.work(w, 0, 1);
            x.work(w + 3, 2, 1);
        }
        x.pass(8);
        c.due("not cut behind 8 days", x.bankOf(1, 0), 120);
        c.due("cut by 5", x.cutter(5, 3), 280);
        x.pass(1);
        c.due("not cut behind 9 days", x.bankOf(1, 0), 0);
        c.due("the first ones cut", x.cutter(2, 3), 360);
        c.due("the later ones cut none", x.cutter(3, 3), 320);
        c.due("cut for 0", x.hearthOf(0, 7), 1080);
        c.due("cut for 2", x.hearthOf(2, 7), 920);
        c.due("they are at work still", x.bankOf(1, 3), 6);
        c.due("but none more can be", x.whyNot(0, 3, 1), 3);
        x.pass(60);
        c.due("all 2000", x.hearthOf(0, 7) + x.hearthOf(2, 7), 2000);
    }

    /** Three hearths with 40 dry turves each on the bank 0, on the day 3, under snow. */
    private static PeatHearths threeWithDryTurves() {
        PeatHearths x = new PeatHearths();
        x.set(0, 3);
        for (int h = 1; h <= 3; h++) {
            x.strength(h, 40);
            x.work(h, h, 0);
        }
        x.pass(1);
        x.snow();
        x.pass(9);
        return x;
    }

    private static void cartsGoAround(Checks c) {
        c.section("promise 9, carts");
        PeatHearths x = threeWithDryTurves();
        for (int h = 1; h <= 3; h++) {
            c.due("dry of " + h, x.plot(h, 0, 3), 40);
        }
        x.hearth(4, false, 300);
        x.snow();
        x.set(0, 7);
        x.track(0, 50);
        c.due("day 11 of rain 4, begins with 1: home", x.pass(1), 50);
        c.due("1 has", x.hearthOf(1, 2), 40);
        c.due("2 has", x.hearthOf(2, 2), 10);
        c.due("3 has", x.hearthOf(3, 2), 0);
        x.undo();
        x.snow();
        x.pass(2);
        x.snow();
        x.set(0, 3);
        c.due("day 13 of rain 4, begins with 3: home", x.pass(1), 50);
        c.due("3 has", x.hearthOf(3, 2), 40);
        c.due("1 has, by going around", x.hearthOf(1, 2), 10);
        c.due("2 has", x.hearthOf(2, 2), 0);
        x.undo();
        x.undo();
        x.snow();
        x.pass(1);
        x.snow();
        x.set(0, 6);
        c.due("day 14 of rain 4, begins with 4", x.pass(1), 50);
        c.due("1 has", x.hearthOf(1, 2), 40);
        c.due("2 has", x.hearthOf(2, 2), 10);
    }

    private static void giftToThePoorest(Checks c) {
        c.section("promise 9, gifts");
        PeatHearths x = threeWithDryTurves();
        x.hearth(0, true, 300);
        x.snow();
        x.set(0, 7);
        x.set(1, 33);
        x.track(0, 90);
        c.due("home", x.pass(1), 90);
        c.due("1 gave of 40", x.hearthOf(1, 9), 13);
        c.due("2 gave of 40", x.hearthOf(2, 9), 13);
        c.due("3 gave of 10", x.hearthOf(3, 9), 3);
        c.due("1 keeps", x.hearthOf(1, 2), 27);
        c.due("of two widows with as much the lowest, and again when it is the poorest", x.hearthOf(0, 8), 16);
        c.due("the other one has the second gift", x.hearthOf(4, 8), 13);
        c.due("0 has it at home", x.hearthOf(0, 2), 16);
        c.due("turves at home", x.count(5), 90);
        x.undo();
        x.hearth(2, true, 300);
        c.due("a widow gives nothing: home", x.pass(1), 90);
        c.due("2 keeps all", x.hearthOf(2, 2), 40);
        c.due("2 gave", x.hearthOf(2, 9), 0);
        c.due("0 got the first gift", x.hearthOf(0, 8), 13);
        c.due("2 got none", x.hearthOf(2, 8), 0);
        c.due("4 got the second", x.hearthOf(4, 8), 3);
    }

    private static void noWidow(Checks c) {
        c.section("promise 9, no widow");
        PeatHearths x = threeWithDryTurves();
        x.hearth(4, false, 300);
        x.snow();
        x.set(0, 7);
        x.set(1, 50);
        c.due("home", x.pass(1), 40);
        c.due("1 keeps all", x.hearthOf(1, 2), 40);
        c.due("1 gave", x.hearthOf(1, 9), 0);
        c.due("4 got", x.hearthOf(4, 8), 0);
    }

    private static void snowDays(Checks c) {
        c.section("promise 9, snow");
        PeatHearths x = threeWithDryTurves();
        for (int h = 0; h < 5; h++) {
            c.due("lacked by " + h, x.hearthOf(h, 11), 72);
            c.due("burnt by " + h, x.hearthOf(h, 10), 0);
        }
        x.snow();
        x.set(0, 7);
        x.set(1, 0);
        x.pass(1);
        c.due("1 has", x.hearthOf(1, 2), 40);
        x.snow();
        x.set(2, 30);
        c.due("carts do not go in snow", x.pass(2), 0);
        c.due("1 has", x.hearthOf(1, 2), 0);
        c.due("1 burnt all that it had", x.hearthOf(1, 10), 40);
        c.due("1 lacked the rest", x.hearthOf(1, 11), 72 + 20);
        c.due("2 lacked all", x.hearthOf(2, 11), 72 + 60);
        c.due("burnt in all", x.count(6), 40);
    }

    private static void dryingUnderSnow(Checks c) {
        c.section("promise 9, a day of snow has rain 0");
        PeatHearths x = new PeatHearths();
        x.work(0, 0, 1);
        x.pass(1);
        plot(c, x, "day 1, rain 0", new int[] {5, 5, 0});
        x.snow();
        c.due("rain of the day 2 without snow", x.rain(2), 7);
        x.pass(1);
        plot(c, x, "day 2, snow", new int[] {2, 6, 2});
        c.due("all turves on banks", x.count(4), 10);
    }
}
