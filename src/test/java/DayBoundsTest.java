/** The sentences of "A day" that name a boundary: each on both sides of it, on numbers told by hand. */
final class DayBoundsTest {
    static void run(Checks c) {
        cutAtMostWhatIsThere(c);
        cutFromTheFirstOn(c);
        rainOfTheNewDay(c);
        everyRain(c);
        thirdAndOneMore(c);
        halvesRoundedUp(c);
        eachPlotByItself(c);
        sumsOfPlots(c);
        cartsJustFull(c);
        cartsOfEachBank(c);
        cartsOfEachDay(c);
        cartsFromEachHearthOn(c);
        cartsAroundToTheLastLeft(c);
        snowBurns(c);
        snowSettings(c);
        noBurningWithoutSnow(c);
        snowStaysAndStops(c);
        longRun(c);
    }

    private static void cutAtMostWhatIsThere(Checks c) {
        c.section("\"as many turves as the strength, but at most those of the bank that are not cut\"");
        int[][] strengthAndCut = {{19, 19}, {20, 20}, {21, 20}, {40, 20}, {5, 5}};
        for (int[] due : strengthAndCut) {
            PeatHearths x = new PeatHearths();
            Ground.leave(x, 2, 1, 20);
            c.due("not cut", x.bankOf(1, 0), 20);
            x.strength(0, due[0]);
            x.work(0, 0, 1);
            Ground.dayOfRain(x, Ground.IDLE);
            String of = " of the strength " + due[0];
            c.due("not cut behind a day" + of, x.bankOf(1, 0), 20 - due[1]);
            c.due("cut by the cutter" + of, x.cutter(0, 3), due[1]);
            c.due("cut for the hearth" + of, x.hearthOf(0, 7), due[1]);
            c.due("wet, the hearth's, and on that bank" + of, x.plot(0, 1, Ground.WET), due[1]);
            Ground.dayOfRain(x, Ground.IDLE);
            c.due("not cut behind two days" + of, x.bankOf(1, 0), Math.max(0, 20 - 2 * due[0]));
        }
    }

    private static void cutFromTheFirstOn(Checks c) {
        c.section("\"each cutter who is at work, from 0 on, cuts\"");
        PeatHearths x = new PeatHearths();
        Ground.leave(x, 2, 1, 30);
        x.strength(0, 20);
        x.strength(3, 20);
        x.work(3, 3, 1);
        x.work(0, 0, 1);
        Ground.dayOfRain(x, Ground.IDLE);
        c.due("0 cuts first", x.cutter(0, 3), 20);
        c.due("3 cuts the rest", x.cutter(3, 3), 10);
        c.due("who rests cuts nothing", x.cutter(1, 3), 0);
        Ground.dayOfRain(x, Ground.IDLE);
        c.due("nothing is left for 0", x.cutter(0, 3), 20);
        c.due("and both are at work still", x.count(2), 2);
    }

    private static void rainOfTheNewDay(Checks c) {
        c.section("\"When a day passes, the day becomes 1 more; then, on this day\"");
        PeatHearths x = new PeatHearths();
        Ground.cutWet(x, 0, 1, 20);
        c.due("the day", x.count(0), 1);
        x.set(0, 6);
        c.due("rain of this day", x.rain(1), 3);
        c.due("rain of the next one", x.rain(2), 0);
        c.due("and of the one behind it", x.rain(3), 7);
        x.pass(1);
        c.dueText("the day 2 dries", Ground.turves(x, 0, 1), "10 10 0");
        x.pass(1);
        c.dueText("the day 3 wets", Ground.turves(x, 0, 1), "15 5 0");
        x.pass(1);
        c.dueText("the day 4 has rain 4: nothing", Ground.turves(x, 0, 1), "15 5 0");
    }

    private static void everyRain(Checks c) {
        c.section("\"with r above 6 ..; with r of 3 or less ..; otherwise nothing dries\"");
        for (int rain = 0; rain <= 9; rain++) {
            PeatHearths x = new PeatHearths();
            x.set(1, 0);
            Ground.cutWet(x, 0, 1, 20);
            Ground.underSnow(x, 2);
            c.dueText("before", Ground.turves(x, 0, 1), "5 11 4");
            int home = Ground.dayOfRain(x, rain);
            c.due("rain of the day", x.rain(x.count(0)), rain);
            c.dueText("rain " + rain, Ground.turves(x, 0, 1), rain <= 3 ? "2 10 0" : rain <= 6 ? "5 11 0" : "13 5 0");
            c.due("home, rain " + rain, home, rain <= 3 ? 8 : rain <= 6 ? 4 : 2);
        }
    }

    /** From so many wet turves, what days of snow bring: wet, footed, dry. */
    private static void thirdAndOneMore(Checks c) {
        c.section("\"of the footed ones a third, and 1 more, become dry, but at most all, and then of the wet ones half\"");
        String[][] due = {
            {"0 1 0", "0 0 1", "0 0 1"},
            {"1 1 0", "0 1 1", "0 0 2", "0 0 2"},
            {"1 2 0", "0 2 1", "0 1 2", "0 0 3"},
            {"2 2 0", "1 2 1", "0 2 2", "0 1 3", "0 0 4"},
            {"2 3 0", "1 2 2", "0 2 3", "0 1 4", "0 0 5"},
            {"3 3 0", "1 3 2", "0 2 4", "0 1 5", "0 0 6"},
            {"3 4 0", "1 4 2", "0 3 4", "0 1 6", "0 0 7"}};
        for (int n = 0; n < due.length; n++) {
            days(c, n + 1, due[n]);
        }
        days(c, 12, "6 6 0", "3 6 3", "1 5 6", "0 4 8", "0 2 10", "0 1 11", "0 0 12");
        days(c, 35, "17 18 0", "8 20 7", "4 17 14", "2 13 20", "1 9 25", "0 6 29", "0 3 32", "0 1 34", "0 0 35");
    }

    private static void days(Checks c, int wet, String... due) {
        PeatHearths x = Ground.fewWet(wet);
        c.dueText("wet", Ground.turves(x, 0, 1), wet + " 0 0");
        x.snow();
        for (int day = 1; day <= due.length; day++) {
            x.pass(1);
            c.dueText(wet + " wet ones, day " + day, Ground.turves(x, 0, 1), due[day - 1]);
        }
    }

    private static void halvesRoundedUp(Checks c) {
        c.section("\"half of the dry turves, and half of the footed ones (each rounded up), become wet\"");
        wets(c, 1, 0, "1 0 0", "1 0 0", 0);
        wets(c, 1, 1, "0 1 0", "1 0 0", 0);
        wets(c, 1, 2, "0 0 1", "1 0 0", 0);
        wets(c, 2, 2, "0 1 1", "2 0 0", 0);
        wets(c, 2, 3, "0 0 2", "1 0 0", 1);
        wets(c, 3, 1, "1 2 0", "2 1 0", 0);
        wets(c, 3, 2, "0 2 1", "2 1 0", 0);
        wets(c, 3, 3, "0 1 2", "2 0 0", 1);
        wets(c, 3, 4, "0 0 3", "2 0 0", 1);
        wets(c, 5, 2, "1 2 2", "3 1 0", 1);
        wets(c, 5, 3, "0 2 3", "3 1 0", 1);
        wets(c, 7, 2, "1 4 2", "4 2 0", 1);
        wets(c, 7, 3, "0 3 4", "4 1 0", 2);
        wets(c, 7, 9, "0 0 7", "4 0 0", 3);
    }

    private static void wets(Checks c, int wet, int daysOfSnow, String before, String behind, int home) {
        for (int rain = 7; rain <= 9; rain++) {
            PeatHearths x = Ground.fewWet(wet);
            x.set(1, 0);
            // The other turves of the bank are the hearth 2's; on a day that begins with 0 they are not asked first.
            for (int step = 0; step < 5 && (x.count(0) + daysOfSnow + 1) % 5 != 0; step++) {
                Ground.dayOfRain(x, Ground.IDLE);
            }
            if (daysOfSnow > 0) {
                Ground.underSnow(x, daysOfSnow);
            }
            c.dueText("before", Ground.turves(x, 0, 1), before);
            int had = x.hearthOf(0, 2);
            Ground.dayOfRain(x, rain);
            c.dueText(before + " by rain " + rain, plotWithHome(x, had), behind + " " + home);
        }
    }

    private static String plotWithHome(PeatHearths x, int had) {
        return Ground.turves(x, 0, 1) + " " + (x.hearthOf(0, 2) - had);
    }

    /** Each hearth has a share of each bank, and on the plot of h and b there are 5 + 4 * h + b wet turves. */
    private static PeatHearths twentyPlots() {
        PeatHearths x = new PeatHearths();
        for (int b = 0; b < 4; b++) {
            x.give(-1, b, b, 1);
            x.give(-1, 4, b, 1);
        }
        for (int h = 0; h < 5; h++) {
            for (int b = 0; b < 4; b++) {
                Ground.cutWet(x, h, b, 5 + 4 * h + b);
            }
        }
        return x;
    }

    private static void eachPlotByItself(Checks c) {
        c.section("\"for each hearth on each bank\"");
        PeatHearths x = twentyPlots();
        Ground.dayOfRain(x, 3);
        for (int h = 0; h < 5; h++) {
            for (int b = 0; b < 4; b++) {
                int wet = 5 + 4 * h + b;
                c.dueText("of " + h + " on " + b, Ground.turves(x, h, b), wet / 2 + " " + (wet - wet / 2) + " 0");
            }
        }
        Ground.dayOfRain(x, 7);
        for (int h = 0; h < 5; h++) {
            for (int b = 0; b < 4; b++) {
                int wet = 5 + 4 * h + b;
                int footed = (wet - wet / 2) / 2;
                c.dueText("of " + h + " on " + b, Ground.turves(x, h, b), wet - footed + " " + footed + " 0");
            }
        }
    }

    private static void sumsOfPlots(Checks c) {
        c.section("promises 18, 19, 23 and 28: sums of all plots");
        PeatHearths x = twentyPlots();
        for (int days = 0; days <= 4; days++) {
            for (int b = 0; b < 4; b++) {
                c.due("turves that lie on " + b, x.bankOf(b, 4), 5 * (5 + b) + 4 * 10);
            }
            for (int h = 0; h < 5; h++) {
                c.due("turves on all banks of " + h, x.hearthOf(h, 3), 4 * (5 + 4 * h) + 6);
                c.due("will be short by " + h, x.hearthOf(h, 5), 300 - 26 - 16 * h);
            }
            c.due("turves on banks", x.count(4), 20 * 5 + 190);
            int dry = 0;
            for (int n = 0; n < 20; n++) {
                dry += x.plot(n / 4, n % 4, Ground.DRY);
            }
            c.dueDouble("dryness", x.dryness(), dry / 290.0);
            Ground.underSnow(x, 1);
        }
    }

    private static void cartsJustFull(Checks c) {
        c.section("\"as many of its dry turves as are there, but at most what is left of what the track carries\"");
        int[][] carriedAndHome = {{24, 24}, {25, 25}, {26, 25}, {10, 10}, {90, 25}};
        for (int[] due : carriedAndHome) {
            PeatHearths x = Ground.pile(0, 1, 25);
            x.set(1, 0);
            x.track(1, due[0]);
            c.due("home, by " + due[0], Ground.dayOfRain(x, Ground.IDLE), due[1]);
            c.due("at home, by " + due[0], x.hearthOf(0, 2), due[1]);
            c.due("left there, by " + due[0], x.plot(0, 1, Ground.DRY), 25 - due[1]);
        }
        PeatHearths y = new PeatHearths();
        for (int many : new int[] {40, 40, 11}) {
            Ground.cutWet(y, 0, 1, many);
        }
        Ground.dryAll(y);
        y.track(1, 90);
        c.due("90 of 91", Ground.dayOfRain(y, Ground.IDLE), 90);
        c.due("the last one", Ground.dayOfRain(y, Ground.IDLE), 1);
        c.due("none", Ground.dayOfRain(y, Ground.IDLE), 0);
    }

    private static void cartsOfEachBank(Checks c) {
        c.section("\"for each bank\": a track of its own");
        PeatHearths x = new PeatHearths();
        for (int b = 0; b < 4; b++) {
            Ground.cutWet(x, b == 0 ? 1 : 0, b, 40);
            x.track(b, 10 + 5 * b);
        }
        Ground.dryAll(x);
        c.due("home", Ground.dayOfRain(x, Ground.IDLE), 10 + 15 + 20 + 25);
        for (int b = 0; b < 4; b++) {
            c.due("left on " + b, x.bankOf(b, 4), 30 - 5 * b);
        }
    }

    private static void cartsOfEachDay(Checks c) {
        c.section("\"what is left of what the track carries on this day\"");
        PeatHearths x = Ground.pile(0, 1, 40);
        x.track(1, 15);
        for (int due : new int[] {15, 15, 10, 0}) {
            c.due("home", Ground.dayOfRain(x, Ground.IDLE), due);
        }
    }

    /** Five hearths with 20 dry turves each on the bank 1. */
    private static PeatHearths fivePiles() {
        PeatHearths x = new PeatHearths();
        x.set(1, 0);
        x.give(-1, 1, 1, 1);
        x.give(-1, 4, 1, 1);
        for (int h = 0; h < 5; h++) {
            Ground.cutWet(x, h, 1, 20);
        }
        Ground.dryAll(x);
        return x;
    }

    private static void cartsFromEachHearthOn(Checks c) {
        c.section("\"beginning with the one whose number is the day modulo 5, and around\"");
        PeatHearths x = fivePiles();
        for (int n = 0; n < 6; n++) {
            int first = (x.count(0) + 1) % 5;
            x.track(1, 50);
            c.due("home", Ground.dayOfRain(x, Ground.IDLE), 50);
            int[] due = {20, 20, 10, 0, 0};
            for (int step = 0; step < 5; step++) {
                int h = (first + step) % 5;
                c.due("home of " + h + ", first is " + first, x.hearthOf(h, 2), due[step]);
                c.due("left of " + h + ", first is " + first, x.plot(h, 1, Ground.DRY), 20 - due[step]);
            }
            x.undo();
            Ground.underSnow(x, 1);
        }
    }

    private static void cartsAroundToTheLastLeft(Checks c) {
        c.section("\"and around\": all five are asked, once each");
        for (int carts = 10; carts <= 90; carts += 5) {
            PeatHearths x = fivePiles();
            int first = (x.count(0) + 1) % 5;
            x.track(1, carts);
            c.due("home", Ground.dayOfRain(x, Ground.IDLE), carts);
            int left = carts;
            for (int step = 0; step < 5; step++) {
                int due = Math.min(20, left);
                left -= due;
                c.due("home of step " + step + ", by " + carts, x.hearthOf((first + step) % 5, 2), due);
            }
        }
    }

    private static void snowBurns(Checks c) {
        c.section("\"each hearth burns setting 2 turves, or all that it has, if these are fewer\"");
        int[][] hasBurnsLacks = {{7, 7, 1}, {8, 8, 0}, {9, 8, 0}, {40, 8, 0}};
        for (int[] due : hasBurnsLacks) {
            PeatHearths x = Ground.pile(0, 1, due[0]);
            x.set(1, 0);
            Ground.dayOfRain(x, Ground.IDLE);
            c.due("it has", x.hearthOf(0, 2), due[0]);
            int lacked = x.hearthOf(0, 11);
            x.snow();
            c.due("nothing comes home", x.pass(1), 0);
            String of = " of " + due[0];
            c.due("it has still" + of, x.hearthOf(0, 2), due[0] - due[1]);
            c.due("it burnt" + of, x.hearthOf(0, 10), due[1]);
            c.due("it lacked" + of, x.hearthOf(0, 11) - lacked, due[2]);
            c.due("another one, that has none, burnt", x.hearthOf(3, 10), 0);
            c.due("and lacked", x.hearthOf(3, 11), 8 * 31);
            c.due("burnt in all" + of, x.count(6), due[1]);
        }
    }

    private static void snowSettings(Checks c) {
        c.section("\"2: turves of a day of snow, 1 to 30\"");
        PeatHearths x = Ground.pile(0, 1, 40);
        x.set(1, 0);
        Ground.dayOfRain(x, Ground.IDLE);
        x.snow();
        x.set(2, 1);
        int lacked = x.hearthOf(1, 11);
        x.pass(3);
        c.due("1 a day", x.hearthOf(0, 10), 3);
        c.due("lacked by one that has none", x.hearthOf(1, 11) - lacked, 3);
        x.set(2, 30);
        x.pass(1);
        c.due("30 a day", x.hearthOf(0, 10), 33);
        int lackedOf0 = x.hearthOf(0, 11);
        x.pass(1);
        c.due("7 are left", x.hearthOf(0, 10), 40);
        c.due("23 are lacked", x.hearthOf(0, 11) - lackedOf0, 23);
        x.pass(1);
        c.due("none are left", x.hearthOf(0, 11) - lackedOf0, 53);
    }

    private static void noBurningWithoutSnow(Checks c) {
        c.section("\"If there is snow, each hearth burns\": without snow none does");
        PeatHearths x = Ground.pile(0, 1, 40);
        x.set(1, 0);
        Ground.dayOfRain(x, Ground.IDLE);
        int lacked = x.hearthOf(1, 11);
        x.pass(60);
        c.due("at home", x.hearthOf(0, 2), 40);
        c.due("burnt", x.count(6), 0);
        c.due("lacked", x.hearthOf(1, 11), lacked);
    }

    private static void snowStaysAndStops(Checks c) {
        c.section("\"If there is no snow, each cutter cuts\", \"If there is no snow, the carts go\"");
        PeatHearths x = Ground.pile(0, 1, 40);
        x.work(1, 1, 2);
        x.snow();
        c.due("home", x.pass(60), 0);
        c.due("there is snow still", x.count(1), 1);
        c.due("all is there still", x.plot(0, 1, Ground.DRY), 40);
        c.due("nothing is cut", x.cutter(1, 3), 0);
        x.snow();
        c.due("home", Ground.dayOfRain(x, Ground.IDLE), 40);
        c.due("who rested by the snow cuts nothing", x.cutter(1, 3), 0);
    }

    private static void longRun(Checks c) {
        c.section("\"An object is used for at most 512 calls\": the days of so many");
        PeatHearths x = new PeatHearths();
        x.work(0, 0, 1);
        x.work(5, 3, 2);
        for (int n = 0; n < 240; n++) {
            x.pass(60);
        }
        x.snow();
        x.set(2, 30);
        for (int n = 0; n < 240; n++) {
            x.pass(60);
        }
        c.due("the day", x.count(0), 28800);
        c.due("burnt", x.count(6), x.hearthOf(0, 10) + x.hearthOf(3, 10) + x.hearthOf(4, 10));
        c.due("turves add up", x.count(3) + x.count(4) + x.count(5) + x.count(6), 8000);
        c.due("lacked by 1", x.hearthOf(1, 11), 240 * 60 * 30);
        c.due("rain", x.rain(28800), 3);
    }
}
