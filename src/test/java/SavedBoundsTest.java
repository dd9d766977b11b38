import java.util.ArrayList;
import java.util.List;

/** The sentences on saved states and the snapshot that name a boundary. */
final class SavedBoundsTest {
    private static final Class<IllegalStateException> STATE = IllegalStateException.class;

    private interface Change {
        void of(PeatHearths x);
    }

    static void run(Checks c) {
        savedAlsoIfNothingChanges(c);
        notUndoable(c);
        atMostSix(c);
        oldestIsDropped(c);
        undoneAndSavedAgain(c);
        allIsRestored(c);
        olderStatesAreWhole(c);
        oneStateForManyDays(c);
        snapshotBounds(c);
        snapshotStays(c);
    }

    /** A change that leaves all as it was, of each method that can make one. */
    private static List<Change> emptyChanges() {
        List<Change> all = new ArrayList<>();
        all.add(x -> x.hearth(4, true, 300));
        all.add(x -> x.track(0, 40));
        all.add(x -> x.strength(0, 10));
        all.add(x -> x.work(0, 0, 1));
        all.add(x -> x.rest(3));
        all.add(x -> x.set(0, 3));
        all.add(x -> x.set(2, 8));
        all.add(x -> Calls.playText(x, "c0>0/0"));
        all.add(x -> Calls.playText(x, "r3"));
        all.add(x -> x.restore());
        return all;
    }

    private static void savedAlsoIfNothingChanges(Checks c) {
        c.section("\"saves the state from before it (also if it changes nothing)\"");
        int n = 0;
        for (Change change : emptyChanges()) {
            PeatHearths x = new PeatHearths();
            x.work(0, 0, 1);
            x.keep();
            long before = x.digest();
            change.of(x);
            c.due("saved states behind the change " + n, x.count(12), 2);
            c.due("undo of the change " + n, x.undo(), 1);
            c.due("the state behind undo of the change " + n, x.digest(), before);
            n++;
        }
    }

    private static void notUndoable(Checks c) {
        c.section("\"Each method that is marked undoable\": the others save nothing");
        PeatHearths x = new PeatHearths();
        x.snow();
        for (int n = 0; n < 7; n++) {
            x.keep();
            x.append(42);
            x.firstError();
            x.clearBuffer();
            x.digest();
            c.due("saved states", x.count(12), 1);
        }
        c.due("undo()", x.undo(), 0);
        c.due("undo is not undone: no snow", x.count(1), 0);
        c.dueThrow("undo() of none", x, STATE, () -> x.undo());
    }

    private static void atMostSix(Checks c) {
        c.section("\"At most 6 states are saved\"");
        for (int changes = 0; changes <= 15; changes++) {
            PeatHearths x = new PeatHearths();
            for (int n = 1; n <= changes; n++) {
                x.pass(1);
                c.due("saved states of " + n, x.count(12), n < 6 ? n : 6);
            }
            int saved = Math.min(changes, 6);
            for (int left = saved - 1; left >= 0; left--) {
                c.due("undo() of " + changes, x.undo(), left);
                c.due("saved states", x.count(12), left);
                c.due("the day", x.count(0), changes - saved + left);
            }
            c.dueThrow("one undo more of " + changes, x, STATE, () -> x.undo());
            c.due("the day stays", x.count(0), changes - saved);
        }
    }

    private static void oldestIsDropped(Checks c) {
        c.section("\"the oldest one is dropped first\"");
        Change[] changes = {x -> x.hearth(0, true, 77), x -> x.track(1, 11), x -> x.strength(2, 22), x -> x.work(3, 0, 3),
            x -> x.give(-1, 4, 2, 2), x -> x.set(1, 1), x -> x.snow(), x -> x.pass(3)};
        PeatHearths x = new PeatHearths();
        String[] told = new String[changes.length];
        for (int n = 0; n < changes.length; n++) {
            told[n] = whatChanges(x);
            changes[n].of(x);
        }
        for (int n = changes.length - 1; n >= 2; n--) {
            x.undo();
            c.dueText("the state before the change " + n, whatChanges(x), told[n]);
        }
        c.dueThrow("the state before the change 1 is dropped", x, STATE, () -> x.undo());
        c.due("the changes 0 and 1 stay", x.hearthOf(0, 1) * 100 + x.bankOf(1, 1), 7711);
    }

    private static String whatChanges(PeatHearths x) {
        int[] all = {x.hearthOf(0, 1), x.bankOf(1, 1), x.cutter(2, 0), x.cutter(3, 1), x.plot(4, 2, 0), x.count(10),
            x.count(1), x.count(0)};
        return java.util.Arrays.toString(all);
    }

    /** Some are saved, some undone, again and again: against a list of days. */
    private static void undoneAndSavedAgain(Checks c) {
        c.section("saved states behind undo");
        for (int saves = 1; saves <= 13; saves++) {
            for (int undos = 1; undos <= 6; undos++) {
                PeatHearths x = new PeatHearths();
                List<Integer> days = new ArrayList<>();
                int next = 1;
                for (int round = 0; round < 4; round++) {
                    for (int n = 0; n < saves; n++) {
                        days.add(x.count(0));
                        x.pass(next);
                        next = next % 5 + 1;
                    }
                    while (days.size() > 6) {
                        days.remove(0);
                    }
                    for (int n = 0; n < undos && !days.isEmpty(); n++) {
                        int due = days.remove(days.size() - 1);
                        c.due("undo()", x.undo(), days.size());
                        c.due("the day", x.count(0), due);
                    }
                    c.due("saved states", x.count(12), days.size());
                }
            }
        }
    }

    private static void allIsRestored(Checks c) {
        c.section("\"all, also what is counted so far, but the buffer, the saved states and the snapshot\"");
        PeatHearths x = new PeatHearths();
        x.set(1, 40);
        x.work(0, 0, 1);
        x.work(1, 1, 2);
        x.pass(20);
        x.snow();
        x.pass(5);
        x.snow();
        x.work(2, 2, 3);
        String before = UndoTest.looks(x);
        int[][] counted = {{0, 7}, {4, 8}, {0, 9}, {1, 10}, {3, 11}};
        int[] was = new int[counted.length];
        for (int n = 0; n < counted.length; n++) {
            was[n] = x.hearthOf(counted[n][0], counted[n][1]);
        }
        int cut = x.cutter(2, 3);
        c.due("all parts", Calls.playText(x, "c0>0/1;c3>1/0;+30;*;+9;*;c4>0/2;+1"), 8);
        for (int n = 0; n < counted.length; n++) {
            String told = "hearthOf(" + counted[n][0] + ", " + counted[n][1] + ")";
            c.dueTrue(told + " is more than " + was[n], x.hearthOf(counted[n][0], counted[n][1]) > was[n]);
        }
        c.dueTrue("more is cut", x.cutter(2, 3) > cut);
        x.undo();
        c.dueText("all is as before", UndoTest.looks(x), before);
    }

    /** Each saved state, the oldest and the latest too, comes back with all that it had. */
    private static void olderStatesAreWhole(Checks c) {
        c.section("\"saves the state from before it .. all\": of each of the six");
        for (int undos = 1; undos <= 6; undos++) {
            for (int before = 0; before <= 6; before++) {
                PeatHearths x = new PeatHearths();
                x.set(1, 50);
                int[][] places = {{0, 1}, {0, 2}, {1, 0}, {2, 3}, {3, 1}, {3, 2}};
                for (int w = 0; w < 6; w++) {
                    x.work(w, places[w][0], places[w][1]);
                }
                x.pass(9 + before);
                for (int n = 0; n < before; n++) {
                    x.rest(n % 6);
                }
                String due = UndoTest.looks(x);
                for (int n = 0; n < undos; n++) {
                    x.pass(7);
                    x.keep();
                }
                for (int n = 0; n < undos; n++) {
                    x.undo();
                }
                c.dueText("behind " + undos + " undos", UndoTest.looks(x), due);
            }
        }
    }

    private static void oneStateForManyDays(Checks c) {
        c.section("promises 9 and 14: \"Undoable, as one call\"");
        PeatHearths x = new PeatHearths();
        x.pass(60);
        x.pass(60);
        c.due("two calls", x.count(12), 2);
        Calls.playText(x, "+1;+2;+3;*;*;r0;c0>0/1");
        c.due("one for a text of seven parts", x.count(12), 3);
        c.due("undo()", x.undo(), 2);
        c.due("the day", x.count(0), 120);
        c.due("undo()", x.undo(), 1);
        c.due("the day", x.count(0), 60);
    }

    private static void snapshotBounds(Checks c) {
        c.section("promises 16 and 17: \"one snapshot\", \"in place of the one before\"");
        PeatHearths x = new PeatHearths();
        c.dueThrow("restore() without one", x, STATE, () -> x.restore());
        c.due("keep()", x.keep(), 0);
        c.due("restore() of the day 0", x.restore(), 0);
        for (int n = 1; n <= 9; n++) {
            x.pass(n);
            c.due("keep()", x.keep(), x.count(0));
        }
        x.pass(60);
        c.due("restore() of the latest", x.restore(), 45);
        x.pass(60);
        c.due("restore() of the latest again", x.restore(), 45);
        c.due("the day", x.count(0), 45);
    }

    private static void snapshotStays(Checks c) {
        c.section("promises 15 to 17: the snapshot is no saved state");
        PeatHearths x = new PeatHearths();
        x.pass(4);
        x.keep();
        x.undo();
        c.due("undo does not take it back", x.restore(), 4);
        c.due("restore is saved", x.count(12), 1);
        c.due("undo()", x.undo(), 0);
        c.due("the day", x.count(0), 0);
        for (int n = 0; n < 9; n++) {
            c.due("it stays", x.restore(), 4);
        }
        c.due("saved states", x.count(12), 6);
        x.pass(1);
        x.keep();
        x.undo();
        c.due("the day", x.count(0), 4);
        c.due("what was kept before the undo", x.restore(), 5);
    }
}
