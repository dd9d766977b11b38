import java.util.ArrayList;
import java.util.List;

/**
 * Ranges of all arguments, just inside and just outside; which exception is thrown if several apply; and that a
 * call that throws changes nothing, nor does a look.
 */
final class ArgumentBoundsTest {
    private static final String INDEX = "throws.IndexOutOfBoundsException";
    private static final String ARGUMENT = "throws.IllegalArgumentException";
    private static final String STATE = "throws.IllegalStateException";

    private interface Call {
        long answer(PeatHearths x, int[] a);
    }

    /** A method with one letter for each of its arguments: I for an index, A for another one; and their ranges. */
    private static final class Row {
        final String name;
        final String kinds;
        final int[] good;
        final int[][] ranges;
        final Call call;

        Row(String name, String kinds, int[] good, int[][] ranges, Call call) {
            this.name = name;
            this.kinds = kinds;
            this.good = good;
            this.ranges = ranges;
            this.call = call;
        }

        String due(int argument) {
            return kinds.charAt(argument) == 'I' ? INDEX : ARGUMENT;
        }

        String told(int[] a) {
            StringBuilder all = new StringBuilder(name).append('(');
            for (int n = 0; n < a.length; n++) {
                all.append(n == 0 ? "" : ", ").append(a[n]);
            }
            return all.append(')').toString();
        }
    }

    private static final int[] HEARTH = {0, 4};
    private static final int[] HOLDER = {-1, 4};
    private static final int[] BANK = {0, 3};
    private static final int[] CUTTER = {0, 5};
    private static final int[] DAYS = {1, 60};

    private static List<Row> rows() {
        List<Row> all = new ArrayList<>();
        changes(all);
        looks(all);
        return all;
    }

    private static void changes(List<Row> all) {
        all.add(row("hearth", "IA", (x, a) -> x.hearth(a[0], true, a[1]), of(3, 300), HEARTH, of(50, 900)));
        all.add(row("track", "IA", (x, a) -> x.track(a[0], a[1]), of(2, 40), BANK, of(10, 90)));
        all.add(row("strength", "IA", (x, a) -> x.strength(a[0], a[1]), of(4, 20), CUTTER, of(5, 40)));
        all.add(row("work", "III", (x, a) -> x.work(a[0], a[1], a[2]), of(2, 2, 3), CUTTER, HEARTH, BANK));
        all.add(row("rest", "I", (x, a) -> x.rest(a[0]), of(3), CUTTER));
        all.add(row("give", "IIIA", (x, a) -> x.give(a[0], a[1], a[2], a[3]), of(3, 4, 1, 1), HOLDER, HOLDER, BANK,
            of(1, 12)));
        all.add(row("pass", "A", (x, a) -> x.pass(a[0]), of(7), DAYS));
        all.add(row("set", "I", (x, a) -> x.set(a[0], 5), of(1), of(0, 2)));
        all.add(row("set 0", "A", (x, a) -> x.set(0, a[0]), of(5), of(0, 9)));
        all.add(row("set 1", "A", (x, a) -> x.set(1, a[0]), of(5), of(0, 50)));
        all.add(row("set 2", "A", (x, a) -> x.set(2, a[0]), of(5), of(1, 30)));
        all.add(row("append", "A", (x, a) -> x.append(a[0]), of(99), of(33, 126)));
    }

    private static void looks(List<Row> all) {
        all.add(row("hearthOf", "IA", (x, a) -> x.hearthOf(a[0], a[1]), of(1, 2), HEARTH, of(0, 11)));
        all.add(row("bankOf", "IA", (x, a) -> x.bankOf(a[0], a[1]), of(1, 2), BANK, of(0, 4)));
        all.add(row("plot", "IIA", (x, a) -> x.plot(a[0], a[1], a[2]), of(1, 2, 3), HEARTH, BANK, of(0, 4)));
        all.add(row("cutter", "IA", (x, a) -> x.cutter(a[0], a[1]), of(5, 2), CUTTER, of(0, 3)));
        all.add(row("rain", "A", (x, a) -> x.rain(a[0]), of(9), of(0, Integer.MAX_VALUE)));
        all.add(row("count", "A", (x, a) -> x.count(a[0]), of(3), of(0, 12)));
        all.add(row("whyNot", "III", (x, a) -> x.whyNot(a[0], a[1], a[2]), of(2, 2, 3), CUTTER, HEARTH, BANK));
        all.add(row("ifPassed", "AA", (x, a) -> x.ifPassed(a[0], a[1]), of(5, 1), DAYS, of(0, 2)));
        all.add(row("enoughIn", "I", (x, a) -> x.enoughIn(a[0]), of(2), HEARTH));
        all.add(row("bestBank", "II", (x, a) -> x.bestBank(a[0], a[1]), of(3, 1), CUTTER, HEARTH));
    }

    private static Row row(String name, String kinds, Call call, int[] good, int[]... ranges) {
        return new Row(name, kinds, good, ranges, call);
    }

    private static int[] of(int... numbers) {
        return numbers;
    }

    static void run(Checks c) {
        for (Row row : rows()) {
            c.section("the ranges of " + row.name);
            for (int argument = 0; argument < row.good.length; argument++) {
                inside(c, row, argument);
                outside(c, row, argument);
            }
            severalOutside(c, row);
        }
        sameHolders(c);
        stateComesLast(c);
        notPossible(c);
        settingComesFirst(c);
        looksChangeNothing(c);
    }

    /** Each number of the range is taken; another exception may still apply, as for shares that are not there. */
    private static void inside(Checks c, Row row, int argument) {
        int lowest = row.ranges[argument][0];
        int highest = row.ranges[argument][1];
        long step = Math.max(1, ((long) highest - lowest) / 1000);
        for (long number = lowest; number <= highest; number += step) {
            int[] a = row.good.clone();
            a[argument] = (int) number;
            PeatHearths x = new PeatHearths();
            String got = Checks.outcome(() -> row.call.answer(x, a));
            c.dueTrue(row.told(a) + " answered " + got, !got.equals(row.due(argument)));
        }
    }

    private static void outside(Checks c, Row row, int argument) {
        int lowest = row.ranges[argument][0];
        int highest = row.ranges[argument][1];
        long[] numbers = {lowest - 1L, lowest - 2L, highest + 1L, highest + 2L, Integer.MIN_VALUE, Integer.MAX_VALUE,
            row.good[argument] + 256L, row.good[argument] + 65536L, row.good[argument] - 65536L};
        for (long number : numbers) {
            boolean isOutside = number < lowest || number > highest;
            if (isOutside && number >= Integer.MIN_VALUE && number <= Integer.MAX_VALUE) {
                int[] a = row.good.clone();
                a[argument] = (int) number;
                refused(c, row, a, row.due(argument));
            }
        }
    }

    /** All sets of two or more arguments that are outside: the index is named first in each throws clause. */
    private static void severalOutside(Checks c, Row row) {
        int arguments = row.good.length;
        for (int set = 0; set < 1 << arguments; set++) {
            if (Integer.bitCount(set) < 2) {
                continue;
            }
            int[] below = row.good.clone();
            int[] above = row.good.clone();
            String due = ARGUMENT;
            for (int n = 0; n < arguments; n++) {
                if ((set >> n & 1) == 1) {
                    below[n] = row.ranges[n][0] - 1;
                    above[n] = row.ranges[n][1] + 1;
                    due = row.due(n).equals(INDEX) ? INDEX : due;
                }
            }
            refused(c, row, below, due);
            refused(c, row, above, due);
        }
    }

    private static void refused(Checks c, Row row, int[] a, String due) {
        Twins[] pasts = {Twins.fresh(), Twins.lived(), Twins.snowy()};
        for (Twins both : pasts) {
            c.dueText(row.told(a), Checks.outcome(() -> row.call.answer(both.x, a)), due);
            both.dueAlike(c, row.told(a));
        }
    }

    private static void refused(Checks c, String told, Twins both, String due, Checks.Call call) {
        c.dueText(told, Checks.outcome(call), due);
        both.dueAlike(c, told);
    }

    private static void sameHolders(Checks c) {
        c.section("promise 7: \"if from and to are the same\"");
        for (int holder = -1; holder <= 4; holder++) {
            for (int bank = 0; bank <= 3; bank++) {
                int h = holder;
                int b = bank;
                String told = "give(" + h + ", " + h + ", " + b;
                Twins one = Twins.lived();
                refused(c, told + ", 1)", one, ARGUMENT, () -> one.x.give(h, h, b, 1));
                Twins many = Twins.lived();
                refused(c, told + ", 12), also if it has not so many", many, ARGUMENT, () -> many.x.give(h, h, b, 12));
                Twins none = Twins.lived();
                refused(c, told + ", 0)", none, ARGUMENT, () -> none.x.give(h, h, b, 0));
                Twins far = Twins.lived();
                refused(c, "give(" + h + ", " + h + ", 4, 1)", far, INDEX, () -> far.x.give(h, h, 4, 1));
            }
        }
        Twins out = Twins.lived();
        refused(c, "give(5, 5, 0, 1)", out, INDEX, () -> out.x.give(5, 5, 0, 1));
        Twins low = Twins.lived();
        refused(c, "give(-2, -2, 0, 1)", low, INDEX, () -> low.x.give(-2, -2, 0, 1));
    }

    private static void stateComesLast(Checks c) {
        c.section("\"If several exceptions apply, the one that is named first in the throws clause is thrown\"");
        Twins give = Twins.lived();
        refused(c, "give(1, 0, 1, 13): too many, and none there", give, ARGUMENT, () -> give.x.give(1, 0, 1, 13));
        Twins index = Twins.lived();
        refused(c, "give(1, 0, 4, 12): no bank", index, INDEX, () -> index.x.give(1, 0, 4, 12));
        Twins to = Twins.lived();
        refused(c, "give(1, 5, 1, 12): no hearth to", to, INDEX, () -> to.x.give(1, 5, 1, 12));
        Twins work = Twins.snowy();
        refused(c, "work(6, 4, 1): no cutter, no share, snow", work, INDEX, () -> work.x.work(6, 4, 1));
        Twins bank = Twins.snowy();
        refused(c, "work(0, 4, 4): no bank, snow", bank, INDEX, () -> bank.x.work(0, 4, 4));
        int[] wrongCodes = {32, 127, -1, 0, 255, Integer.MAX_VALUE, Integer.MIN_VALUE, 65536 + 99};
        for (int code : wrongCodes) {
            Twins full = Twins.full();
            refused(c, "append(" + code + ") to a full buffer", full, ARGUMENT, () -> full.x.append(code));
        }
    }

    private static void notPossible(Checks c) {
        c.section("\"A call that throws an exception changes nothing\": what is not possible");
        Twins full = Twins.full();
        refused(c, "append to a full buffer", full, STATE, () -> full.x.append(42));
        Twins share = Twins.lived();
        refused(c, "work without a share", share, STATE, () -> share.x.work(0, 1, 1));
        Twins snow = Twins.snowy();
        refused(c, "work in snow", snow, STATE, () -> snow.x.work(1, 3, 2));
        Twins many = Twins.lived();
        many.x.work(1, 3, 2);
        int due = many.x.count(12);
        c.due("six are saved", due, 6);
        Twins give = Twins.lived();
        refused(c, "give of more than there are", give, STATE, () -> give.x.give(2, 0, 1, 4));
        Twins commons = Twins.lived();
        refused(c, "give of more than the commons", commons, STATE, () -> commons.x.give(-1, 0, 3, 12));
        Twins undo = Twins.fresh();
        refused(c, "undo of none", undo, STATE, () -> undo.x.undo());
        Twins restore = Twins.fresh();
        refused(c, "restore of none", restore, STATE, () -> restore.x.restore());
        Twins play = Twins.lived();
        refused(c, "play of +5;c", play, ARGUMENT, () -> play.x.play());
        Twins sixty = Twins.full();
        refused(c, "play of 60 characters that are not complete", sixty, ARGUMENT, () -> sixty.x.play());
        Twins empty = Twins.fresh();
        refused(c, "play of nothing", empty, ARGUMENT, () -> empty.x.play());
    }

    private static void settingComesFirst(Checks c) {
        c.section("promise 10: the setting is looked at before the value");
        int[] settings = {-1, 3, Integer.MIN_VALUE, Integer.MAX_VALUE};
        int[] values = {-1, 0, 1, 10, 31, 51, Integer.MIN_VALUE, Integer.MAX_VALUE};
        for (int setting : settings) {
            for (int value : values) {
                Twins both = Twins.lived();
                refused(c, "set(" + setting + ", " + value + ")", both, INDEX, () -> both.x.set(setting, value));
            }
        }
    }

    private static void looksChangeNothing(Checks c) {
        c.section("looks and what would be: nothing is changed");
        List<Row> all = new ArrayList<>();
        looks(all);
        for (Row row : all) {
            Twins[] pasts = {Twins.fresh(), Twins.lived(), Twins.snowy()};
            for (Twins both : pasts) {
                for (int argument = 0; argument < row.good.length; argument++) {
                    int[] a = row.good.clone();
                    for (int number = row.ranges[argument][0]; number <= Math.min(60, row.ranges[argument][1]); number++) {
                        a[argument] = number;
                        row.call.answer(both.x, a);
                    }
                }
                both.dueAlike(c, row.name);
            }
        }
        Twins rest = Twins.lived();
        rest.x.firstError();
        rest.x.dryness();
        rest.x.digest();
        rest.dueAlike(c, "firstError, dryness and digest");
    }
}
