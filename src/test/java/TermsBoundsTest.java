/** The sentences of "Terms" that name a boundary, but for a day, texts and saved states. */
final class TermsBoundsTest {
    static void run(Checks c) {
        eachHasNumbersOfItsOwn(c);
        firstReasonThatApplies(c);
        noShare(c);
        asManyAsShares(c);
        nothingNotCut(c);
        whoWorksCountsAlready(c);
        cuttersAreCounted(c);
        snowLetsAllRest(c);
        snowLeavesWhatIsCounted(c);
        sharesRunOut(c);
        sharesAddUp(c);
        cuttersStayWithoutShares(c);
        turvesStayTheHearths(c);
        shortBy(c);
        willBeShortBy(c);
        shortAmongAll(c);
        toldTheSecondWay(c);
        rainAhead(c);
        objectsAreApart(c);
    }

    private static void eachHasNumbersOfItsOwn(Checks c) {
        c.section("\"There are 5 hearths .. 4 banks .. 6 cutters\"");
        PeatHearths x = new PeatHearths();
        for (int h = 0; h < 5; h++) {
            x.hearth(h, h % 2 == 0, 100 + h);
        }
        for (int b = 0; b < 4; b++) {
            x.track(b, 20 + b);
        }
        for (int w = 0; w < 6; w++) {
            x.strength(w, 30 + w);
        }
        for (int h = 0; h < 5; h++) {
            c.due("widow's " + h, x.hearthOf(h, 0), h % 2 == 0 ? 1 : 0);
            c.due("need of " + h, x.hearthOf(h, 1), 100 + h);
        }
        for (int b = 0; b < 4; b++) {
            c.due("carts of " + b, x.bankOf(b, 1), 20 + b);
        }
        for (int w = 0; w < 6; w++) {
            c.due("strength of " + w, x.cutter(w, 0), 30 + w);
        }
    }

    private static void firstReasonThatApplies(Checks c) {
        c.section("\"for the first of these reasons that applies\"");
        PeatHearths x = new PeatHearths();
        c.due("no share and no cutter there: 1 is before 2", x.whyNot(0, 4, 1), 1);
        x.work(0, 0, 1);
        x.give(0, 2, 1, 3);
        c.due("no share any more, and a cutter there", x.whyNot(1, 0, 1), 1);
        x.give(2, 0, 1, 1);
        c.due("as many as shares", x.whyNot(1, 0, 1), 2);
        x.snow();
        c.due("1 is before 4", x.whyNot(1, 4, 1), 1);
        c.due("only 4", x.whyNot(1, 0, 1), 4);
        x.snow();
        c.due("none", x.whyNot(1, 0, 1), 0);
        Ground.leave(x, 2, 1, 5);
        x.work(0, 0, 1);
        x.strength(0, 5);
        x.pass(1);
        c.due("nothing is left", x.bankOf(1, 0), 0);
        c.due("1 is before 3", x.whyNot(1, 4, 1), 1);
        c.due("2 is before 3", x.whyNot(1, 0, 1), 2);
        c.due("only 3", x.whyNot(1, 2, 1), 3);
        x.snow();
        c.due("1 is before 3 and 4", x.whyNot(1, 4, 1), 1);
        c.due("3 is before 4", x.whyNot(1, 2, 1), 3);
        c.due("another bank: only 4", x.whyNot(1, 2, 3), 4);
    }

    private static void noShare(Checks c) {
        c.section("\"1: the hearth has no share of the bank\"");
        PeatHearths x = new PeatHearths();
        for (int h = 0; h < 5; h++) {
            for (int b = 0; b < 4; b++) {
                c.due("of " + h + " on " + b, x.whyNot(0, h, b), h == b || h == 4 ? 1 : 0);
            }
        }
        x.give(0, -1, 1, 2);
        c.due("one share", x.whyNot(0, 0, 1), 0);
        x.give(0, -1, 1, 1);
        c.due("no share", x.whyNot(0, 0, 1), 1);
        c.dueThrow("work without a share", x, IllegalStateException.class, () -> x.work(0, 0, 1));
    }

    private static void asManyAsShares(Checks c) {
        c.section("\"2: as many cutters are at work for this hearth on this bank as it has shares of it\"");
        for (int shares = 1; shares <= 6; shares++) {
            PeatHearths x = new PeatHearths();
            x.give(-1, 0, 1, 3);
            if (shares < 6) {
                x.give(0, -1, 1, 6 - shares);
            }
            for (int w = 0; w < shares; w++) {
                c.due("room for " + w + " of " + shares, x.whyNot(w, 0, 1), 0);
                c.due("work(" + w + ", 0, 1)", x.work(w, 0, 1), w + 1);
            }
            c.due("no room for one more", x.whyNot(5, 0, 1), 2);
            c.dueThrow("one more", x, IllegalStateException.class, () -> x.work(5, 0, 1));
            c.due("cutters of another hearth there do not count", x.whyNot(5, 2, 1), 0);
            c.due("nor those on another bank", x.whyNot(5, 0, 2), 0);
            x.give(2, 0, 1, 1);
            c.due("room by one share more", x.whyNot(5, 0, 1), 0);
            x.undo();
            x.rest(0);
            c.due("room by one who rests", x.whyNot(5, 0, 1), 0);
        }
    }

    private static void nothingNotCut(Checks c) {
        c.section("\"3: the bank has no turves that are not cut\"");
        PeatHearths x = new PeatHearths();
        Ground.leave(x, 2, 1, 6);
        x.strength(0, 5);
        x.work(0, 0, 1);
        x.pass(1);
        c.due("one turf is left", x.bankOf(1, 0), 1);
        c.due("possible", x.whyNot(1, 2, 1), 0);
        c.due("work(1, 2, 1)", x.work(1, 2, 1), 1);
        x.pass(1);
        c.due("none is left", x.bankOf(1, 0), 0);
        c.due("not possible", x.whyNot(3, 2, 1), 3);
        c.dueThrow("work", x, IllegalStateException.class, () -> x.work(3, 2, 1));
        c.due("the banks beside it", x.whyNot(3, 2, 0) + x.whyNot(3, 1, 2), 0);
    }

    private static void whoWorksCountsAlready(Checks c) {
        c.section("promise 5: \"a cutter who is at work there already counts for the reason 2\"");
        PeatHearths x = new PeatHearths();
        x.work(0, 0, 1);
        x.work(1, 0, 1);
        c.due("again, with room", x.work(1, 0, 1), 2);
        x.give(0, -1, 1, 1);
        c.due("without room", x.whyNot(1, 0, 1), 2);
        c.dueThrow("again, without room", x, IllegalStateException.class, () -> x.work(1, 0, 1));
        c.due("to another bank", x.work(1, 0, 2), 1);
        c.due("and back", x.work(1, 0, 1), 2);
        c.due("for another hearth on the bank", x.work(1, 3, 1), 1);
        c.due("left there", x.plot(0, 1, 4), 1);
    }

    private static void cuttersAreCounted(Checks c) {
        c.section("promises 5, 6, 19, 20 and 23: cutters at work, of each hearth on each bank");
        for (int h = 0; h < 5; h++) {
            for (int b = 0; b < 4; b++) {
                PeatHearths x = new PeatHearths();
                x.give(-1, h, b, 2);
                int first = (h + b) % 6;
                int second = (h + b + 1) % 6;
                c.due("the first", x.work(first, h, b), 1);
                c.due("the second", x.work(second, h, b), 2);
                for (int n = 0; n < 20; n++) {
                    c.due("on a plot", x.plot(n / 4, n % 4, 4), n / 4 == h && n % 4 == b ? 2 : 0);
                }
                for (int bank = 0; bank < 4; bank++) {
                    c.due("on a bank", x.bankOf(bank, 3), bank == b ? 2 : 0);
                }
                c.due("at work", x.count(2), 2);
                c.due("rest of the second", x.rest(second), 1);
                c.due("the first works still", x.cutter(first, 1) * 10 + x.cutter(first, 2), h * 10 + b);
                c.due("the second rests", x.cutter(second, 1) + x.cutter(second, 2), -2);
                c.due("rest of the first", x.rest(first), 0);
            }
        }
    }

    private static void snowLetsAllRest(Checks c) {
        c.section("\"When snow comes, all cutters rest\"");
        PeatHearths x = new PeatHearths();
        int[][] places = {{0, 1}, {0, 2}, {1, 0}, {2, 3}, {3, 1}, {3, 2}};
        for (int w = 0; w < 6; w++) {
            x.work(w, places[w][0], places[w][1]);
        }
        c.due("all are at work", x.count(2), 6);
        x.snow();
        for (int w = 0; w < 6; w++) {
            c.due("hearth of " + w, x.cutter(w, 1), -1);
            c.due("bank of " + w, x.cutter(w, 2), -1);
            c.due("strength of " + w, x.cutter(w, 0), 10 + 2 * w);
        }
        c.due("at work", x.count(2), 0);
        x.snow();
        c.due("they do not begin by themselves", x.count(2), 0);
        x.work(0, 0, 1);
        c.due("when one is at work and there is no snow, it comes", x.snow(), 1);
        x.undo();
        c.due("undo brings the work back", x.cutter(0, 1), 0);
    }

    private static void snowLeavesWhatIsCounted(Checks c) {
        c.section("promise 8: snow changes nothing else");
        PeatHearths x = new PeatHearths();
        int[][] places = {{0, 1}, {0, 2}, {1, 0}, {2, 3}, {3, 1}, {3, 2}};
        for (int w = 0; w < 6; w++) {
            x.work(w, places[w][0], places[w][1]);
        }
        x.pass(3);
        for (int times = 0; times < 2; times++) {
            x.snow();
            for (int w = 0; w < 6; w++) {
                c.due("cut by " + w, x.cutter(w, 3), 3 * (10 + 2 * w));
                c.due("strength of " + w, x.cutter(w, 0), 10 + 2 * w);
            }
            for (int b = 0; b < 4; b++) {
                c.due("carts of " + b, x.bankOf(b, 1), 40);
                c.due("shares of the commons of " + b, x.bankOf(b, 2), 3);
            }
            for (int what = 9; what <= 11; what++) {
                c.due("count(" + what + ")", x.count(what), new int[] {3, 10, 8}[what - 9]);
            }
            c.due("the day", x.count(0), 3);
        }
    }

    private static void sharesRunOut(Checks c) {
        c.section("promise 7: \"if from has not so many\"");
        PeatHearths x = new PeatHearths();
        c.dueThrow("4 of 3", x, IllegalStateException.class, () -> x.give(0, 1, 1, 4));
        c.dueThrow("4 of 3 of the commons", x, IllegalStateException.class, () -> x.give(-1, 1, 1, 4));
        c.dueThrow("1 of none", x, IllegalStateException.class, () -> x.give(0, 1, 0, 1));
        c.dueThrow("12 of none", x, IllegalStateException.class, () -> x.give(4, 1, 0, 12));
        c.due("3 of 3", x.give(0, 1, 1, 3), 3);
        c.due("3 of 3 of the commons", x.give(-1, 1, 1, 3), 6);
        c.due("left", x.plot(0, 1, 0) + x.bankOf(1, 2), 0);
        c.dueThrow("1 of none", x, IllegalStateException.class, () -> x.give(0, 1, 1, 1));
        c.dueThrow("1 of no commons", x, IllegalStateException.class, () -> x.give(-1, 1, 1, 1));
        x.give(2, 1, 1, 3);
        c.due("all 12", x.give(3, 1, 1, 3), 12);
        c.due("12 to the commons", x.give(1, -1, 1, 12), 12);
        c.dueThrow("1 of none", x, IllegalStateException.class, () -> x.give(1, 0, 1, 1));
        c.due("11 of 12", x.give(-1, 4, 1, 11), 11);
        c.dueThrow("12 of 11", x, IllegalStateException.class, () -> x.give(4, -1, 1, 12));
        c.due("the last of 12", x.give(-1, 4, 1, 1), 12);
    }

    private static void sharesAddUp(Checks c) {
        c.section("\"Each bank has 12 shares\"");
        PeatHearths x = new PeatHearths();
        x.give(0, 4, 1, 2);
        x.give(-1, 0, 2, 3);
        x.give(3, -1, 0, 1);
        int[][] shares = {{0, 1, 6, 3}, {3, 0, 3, 3}, {3, 3, 0, 3}, {2, 3, 3, 0}, {0, 2, 0, 0}};
        int[] commons = {4, 3, 0, 3};
        for (int b = 0; b < 4; b++) {
            int all = x.bankOf(b, 2);
            c.due("commons of " + b, all, commons[b]);
            for (int h = 0; h < 5; h++) {
                c.due("shares of " + h + " on " + b, x.plot(h, b, 0), shares[h][b]);
                all += x.plot(h, b, 0);
            }
            c.due("all of " + b, all, 12);
        }
    }

    private static void cuttersStayWithoutShares(Checks c) {
        c.section("\"Cutters at work stay, also if they are more than the shares then\"");
        PeatHearths x = new PeatHearths();
        for (int w = 0; w < 3; w++) {
            x.work(w, 0, 1);
        }
        x.give(0, 2, 1, 2);
        c.due("3 cutters, 1 share", x.plot(0, 1, 4), 3);
        x.give(0, 2, 1, 1);
        c.due("3 cutters, no share", x.plot(0, 1, 4), 3);
        c.due("the hearth that got them has no cutter", x.plot(2, 1, 4), 0);
        Ground.dayOfRain(x, Ground.IDLE);
        c.due("they cut for the hearth that they work for", x.plot(0, 1, 1), 10 + 12 + 14);
        c.due("and not for the other one", x.plot(2, 1, 1), 0);
        x.rest(0);
        c.due("two stay", x.bankOf(1, 3), 2);
        c.due("none can come", x.whyNot(0, 0, 1), 1);
    }

    private static void turvesStayTheHearths(Checks c) {
        c.section("\"A turf belongs to a hearth, and lies on a bank, until it is carted home\"");
        PeatHearths x = Ground.pile(0, 1, 25);
        x.set(1, 0);
        x.track(1, 15);
        c.due("all shares are given", x.give(0, 2, 1, 3), 6);
        c.due("the turves are not", x.plot(0, 1, Ground.DRY), 25);
        c.due("the getter has none there", x.plot(2, 1, Ground.DRY), 0);
        c.due("home without a share", Ground.dayOfRain(x, Ground.IDLE), 15);
        c.due("to the hearth", x.hearthOf(0, 2), 15);
        c.due("left there", x.hearthOf(0, 3), 10);
        Ground.dayOfRain(x, 7);
        c.dueText("half of them become wet, the others go home", Ground.turves(x, 0, 1), "5 0 0");
        c.due("at home", x.hearthOf(0, 2), 20);
        c.due("cut in all", x.hearthOf(0, 7), 25);
    }

    /** The hearth 0 has 60 turves at home, and 40 dry ones on the bank 2. */
    private static PeatHearths homeAndBank() {
        PeatHearths x = new PeatHearths();
        x.set(1, 0);
        Ground.cutWet(x, 0, 1, 30);
        Ground.cutWet(x, 0, 3, 30);
        Ground.dryAll(x);
        Ground.dayOfRain(x, Ground.IDLE);
        Ground.cutWet(x, 0, 2, 40);
        return x;
    }

    private static void shortBy(Checks c) {
        c.section("\"A hearth is short by what it needs less what it has at home, at least 0\"");
        PeatHearths x = homeAndBank();
        c.due("at home", x.hearthOf(0, 2), 60);
        int[][] needAndShort = {{50, 0}, {59, 0}, {60, 0}, {61, 1}, {62, 2}, {900, 840}};
        for (int[] due : needAndShort) {
            x.hearth(0, false, due[0]);
            c.due("short, needs " + due[0], x.hearthOf(0, 4), due[1]);
            c.due("hearths that are short, needs " + due[0], x.count(7), due[1] > 0 ? 5 : 4);
        }
    }

    private static void willBeShortBy(Checks c) {
        c.section("\"It will be short by what it needs less all its turves, at home and on banks, at least 0\"");
        PeatHearths x = homeAndBank();
        int[][] needAndShort = {{50, 0}, {60, 0}, {99, 0}, {100, 0}, {101, 1}, {102, 2}, {900, 800}};
        for (int[] due : needAndShort) {
            x.hearth(0, false, due[0]);
            c.due("will be short, needs " + due[0], x.hearthOf(0, 5), due[1]);
            c.due("the second way, needs " + due[0], x.hearthOf(0, 6), due[1]);
            c.due("hearths that will be short, needs " + due[0], x.count(8), due[1] > 0 ? 5 : 4);
        }
        x.hearth(0, false, 101);
        x.set(2, 1);
        x.snow();
        for (int day = 1; day <= 9; day++) {
            x.pass(1);
            c.due("on banks, wet, footed or dry, day " + day, x.hearthOf(0, 3), 40);
            c.due("will be short by one that is burnt a day, day " + day, x.hearthOf(0, 5), 1 + day);
            c.due("the second way, day " + day, x.hearthOf(0, 6), 1 + day);
        }
    }

    /** The widow at the hearth 0 has more than was ever cut for it. */
    private static void shortAmongAll(Checks c) {
        c.section("promise 23: \"hearths that are short\", \"hearths that will be short\"");
        PeatHearths x = new PeatHearths();
        x.hearth(0, true, 50);
        x.set(1, 50);
        for (int many : new int[] {40, 40, 40}) {
            Ground.cutWet(x, 1, 2, many);
        }
        Ground.dryAll(x);
        x.track(2, 90);
        x.hearth(4, false, 300);
        Ground.dayOfRain(x, Ground.IDLE);
        Ground.dayOfRain(x, Ground.IDLE);
        c.due("0 was given", x.hearthOf(0, 2), 60);
        c.due("of 0 is cut", x.hearthOf(0, 7), 0);
        c.due("short are 1 to 4", x.count(7), 4);
        c.due("will be short are 1 to 4", x.count(8), 4);
        x.hearth(1, false, 60);
        c.due("short are 2 to 4", x.count(7), 3);
        c.due("will be short are 2 to 4", x.count(8), 3);
        c.due("would be short are 2 to 4", x.ifPassed(1, 1), 3);
    }

    private static void toldTheSecondWay(Checks c) {
        c.section("\"what it ever got (cut for it, and given to it) less what it gave and burnt; both agree\"");
        PeatHearths x = new PeatHearths();
        x.set(1, 50);
        x.give(-1, 4, 0, 2);
        x.work(0, 0, 1);
        x.work(1, 1, 2);
        x.work(2, 4, 0);
        for (int n = 0; n < 4; n++) {
            x.pass(6);
            x.snow();
            x.pass(1);
            x.snow();
            x.work(0, 0, 1);
            x.work(1, 1, 2);
            x.work(2, 4, 0);
        }
        for (int h = 0; h < 5; h++) {
            int got = x.hearthOf(h, 7) + x.hearthOf(h, 8);
            int parted = x.hearthOf(h, 9) + x.hearthOf(h, 10);
            c.due("the second way of " + h, x.hearthOf(h, 6), Math.max(0, 300 - got + parted));
            c.due("both agree of " + h, x.hearthOf(h, 6), x.hearthOf(h, 5));
            c.due("what it has of " + h, x.hearthOf(h, 2) + x.hearthOf(h, 3), got - parted);
        }
        c.dueTrue("something of each was told", x.hearthOf(0, 7) > 0 && x.hearthOf(4, 8) > 0 && x.hearthOf(0, 9) > 0
            && x.hearthOf(1, 10) > 0 && x.hearthOf(3, 11) > 0 && x.hearthOf(4, 7) > 0);
    }

    private static void rainAhead(Checks c) {
        c.section("\"rain of the day d is 0 to 9: (7 times d, and setting 0) modulo 10\"");
        PeatHearths x = new PeatHearths();
        for (int setting = 0; setting <= 9; setting++) {
            x.set(0, setting);
            for (int day = 0; day <= 30; day++) {
                c.due("rain(" + day + "), setting " + setting, x.rain(day), (7 * day + setting) % 10);
            }
            c.due("the last day, setting " + setting, x.rain(Integer.MAX_VALUE), (9 + setting) % 10);
            // 7 times this day is the first that is more than an int holds.
            c.due("a late day, setting " + setting, x.rain(306783379), (3 + setting) % 10);
            c.due("the day before, setting " + setting, x.rain(306783378), (6 + setting) % 10);
        }
    }

    private static void objectsAreApart(Checks c) {
        c.section("promise 1: an object shares nothing with another one");
        PeatHearths x = new PeatHearths();
        PeatHearths y = new PeatHearths();
        long before = y.digest();
        x.work(0, 0, 1);
        x.set(0, 9);
        x.pass(20);
        x.keep();
        Calls.type(x, "+1");
        c.due("digest of the other one", y.digest(), before);
        c.dueThrow("undo of the other one", y, IllegalStateException.class, () -> y.undo());
        c.dueThrow("restore of the other one", y, IllegalStateException.class, () -> y.restore());
        c.dueThrow("play of the other one", y, IllegalArgumentException.class, () -> y.play());
        c.due("of one made later", new PeatHearths().digest(), before);
    }
}
