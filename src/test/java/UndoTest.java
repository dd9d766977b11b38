/** Promises 15 to 17: undo, the snapshot. */
final class UndoTest {
    private static final Class<IllegalStateException> STATE = IllegalStateException.class;

    static void run(Checks c) {
        undoEach(c);
        sixStates(c);
        bufferAndSnapshotStay(c);
        keepAndRestore(c);
    }

    private static PeatHearths lived() {
        PeatHearths x = new PeatHearths();
        x.work(0, 0, 1);
        x.work(1, 1, 0);
        x.work(5, 3, 2);
        x.pass(30);
        x.snow();
        x.pass(4);
        x.snow();
        x.work(0, 0, 1);
        return x;
    }

    /** What a state answers but for the number of saved states. */
    static String looks(PeatHearths x) {
        StringBuilder all = new StringBuilder();
        for (int what = 0; what < 12; what++) {
            all.append(x.count(what)).append(' ');
        }
        for (int h = 0; h < 5; h++) {
            for (int what = 0; what < 12; what++) {
                all.append(x.hearthOf(h, what)).append(' ');
            }
            for (int b = 0; b < 4; b++) {
                for (int what = 0; what < 5; what++) {
                    all.append(x.plot(h, b, what)).append(' ');
                }
            }
        }
        for (int b = 0; b < 4; b++) {
            for (int what = 0; what < 5; what++) {
                all.append(x.bankOf(b, what)).append(' ');
            }
        }
        for (int w = 0; w < 6; w++) {
            for (int what = 0; what < 4; what++) {
                all.append(x.cutter(w, what)).append(' ');
            }
        }
        return all.toString();
    }

    private static void undoEach(Checks c) {
        c.section("promise 15, each method that is undoable");
        String[] names = {"hearth", "track", "strength", "work", "rest", "give", "snow", "pass", "set", "play", "restore"};
        for (int i = 0; i < names.length; i++) {
            PeatHearths x = lived();
            x.keep();
            x.hearth(2, true, 70);
            String before = looks(x);
            long digest = x.digest();
            c.due("saved states", x.count(12), 6);
            change(x, i);
            c.dueTrue(names[i] + " changes something", x.digest() != digest);
            c.due("saved states behind " + names[i], x.count(12), 6);
            c.due("undo() of " + names[i], x.undo(), 5);
            c.dueTrue("undo takes back " + names[i], looks(x).equals(before));
        }
    }

    private static void change(PeatHearths x, int i) {
        switch (i) {
            case 0: x.hearth(0, true, 55); break;
            case 1: x.track(2, 77); break;
            case 2: x.strength(3, 33); break;
            case 3: x.work(2, 2, 3); break;
            case 4: x.rest(0); break;
            case 5: x.give(0, 4, 1, 2); break;
            case 6: x.snow(); break;
            case 7: x.pass(7); break;
            case 8: x.set(1, 44); break;
            case 9: Calls.playText(x, "+8;*"); break;
            default: x.restore(); break;
        }
    }

    private static void sixStates(Checks c) {
        c.section("promise 15, six states");
        PeatHearths x = new PeatHearths();
        for (int n = 1; n <= 20; n++) {
            x.pass(1);
            c.due("saved states", x.count(12), Math.min(n, 6));
        }
        for (int left = 5; left >= 0; left--) {
            c.due("undo()", x.undo(), left);
            c.due("the day", x.count(0), 14 + left);
        }
        c.dueThrow("undo() of none", x, STATE, () -> x.undo());
        x.pass(5);
        c.due("undo()", x.undo(), 0);
        c.due("the day", x.count(0), 14);
        x.rest(0);
        c.due("a change of nothing is saved, too", x.count(12), 1);
    }

    private static void bufferAndSnapshotStay(Checks c) {
        c.section("promise 15, the buffer and the snapshot stay");
        PeatHearths x = new PeatHearths();
        x.pass(3);
        x.keep();
        Calls.type(x, "+4");
        x.undo();
        c.due("the buffer", x.clearBuffer(), 2);
        c.due("the snapshot", x.restore(), 3);
        Calls.playText(x, "+4");
        x.undo();
        c.due("the text that was played does not come back", x.clearBuffer(), 0);
    }

    private static void keepAndRestore(Checks c) {
        c.section("promises 16 and 17");
        PeatHearths x = lived();
        c.dueThrow("restore() without a snapshot", x, STATE, () -> x.restore());
        int saved = x.count(12);
        c.due("keep()", x.keep(), 34);
        c.due("keep saves no state", x.count(12), saved);
        // Six states are saved all the time, so that the digests differ by nothing else than the land.
        c.due("saved states", saved, 6);
        long kept = x.digest();
        x.pass(20);
        x.give(-1, 4, 0, 1);
        String later = looks(x);
        Calls.type(x, "+7");
        c.due("restore()", x.restore(), 34);
        c.due("the buffer is not of the snapshot", x.clearBuffer(), 2);
        c.due("all is as it was", x.digest(), kept);
        x.pass(1);
        c.due("restore() again", x.restore(), 34);
        c.due("the snapshot stays", x.digest(), kept);
        x.undo();
        c.due("the day", x.count(0), 35);
        x.undo();
        x.undo();
        c.dueText("undo of restore", looks(x), later);
        c.due("keep() in place of the one before", x.keep(), 54);
        x.snow();
        x.give(4, -1, 0, 1);
        c.due("restore()", x.restore(), 54);
        c.due("the later snapshot: no snow", x.count(1), 0);
        c.due("the later snapshot: the share", x.plot(4, 0, 0), 1);
        PeatHearths y = new PeatHearths();
        y.keep();
        y.pass(9);
        c.due("restore()", y.restore(), 0);
        c.due("saved states are not of the snapshot", y.count(12), 2);
    }
}
