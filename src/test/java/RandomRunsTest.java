import java.util.Random;

/** Runs of calls by a fixed seed: the class and the Book have to answer alike. */
final class RandomRunsTest {
    private static final int RUNS = 250;
    // The document tells of 512 calls; the looks at the end of a run need some of them.
    private static final int CALLS = 440;
    private static final String SIGNS = "ccr+*;;>/0123456789~!";

    private final Random random;
    private final PeatHearths x = new PeatHearths();
    private final Book book = new Book();
    private int calls;
    private String call;
    private String got;
    private String due;

    private RandomRunsTest(long seed) {
        random = new Random(seed);
    }

    static void run(Checks c) {
        c.section("random runs");
        for (int seed = 1; seed <= RUNS; seed++) {
            new RandomRunsTest(seed).oneRun(c, seed);
        }
    }

    private void oneRun(Checks c, int seed) {
        int wildness = seed % 3 == 0 ? 6 : 60;
        for (int n = 1; calls < CALLS; n++) {
            step(random.nextInt(wildness) == 0);
            c.dueTrue("seed " + seed + ", call " + calls + ": " + call + " answered " + got + ", due is " + due,
                got.equals(due));
            if (!got.equals(due)) {
                return;
            }
            if (n % 32 == 0) {
                compare("digest()", () -> x.digest(), () -> digestOfBook());
                c.dueText("seed " + seed + ", call " + calls + ": digest()", got, due);
            }
        }
        addsUp(c, "at the end of seed " + seed + ": ");
    }

    private void addsUp(Checks c, String at) {
        c.due(at + "turves add up", x.count(3) + x.count(4) + x.count(5) + x.count(6), 8000);
        for (int h = 0; h < 5; h++) {
            c.due(at + "told in two ways", x.hearthOf(h, 6), x.hearthOf(h, 5));
        }
        for (int b = 0; b < 4; b++) {
            int shares = x.bankOf(b, 2);
            for (int h = 0; h < 5; h++) {
                shares += x.plot(h, b, 0);
            }
            c.due(at + "shares add up", shares, 12);
        }
    }

    private long digestOfBook() {
        long hash = 3739;
        for (int what = 0; what <= 12; what++) {
            hash = 31 * hash + book.count(what);
        }
        for (int h = 0; h < 5; h++) {
            for (int what = 0; what <= 11; what++) {
                hash = 31 * hash + book.hearthOf(h, what);
            }
            for (int i = 0; i < 20; i++) {
                hash = 31 * hash + book.plot(h, i / 5, i % 5);
            }
            hash = 31 * (31 * hash + book.enoughIn(h)) + book.bestBank(0, h);
        }
        for (int i = 0; i < 20; i++) {
            hash = 31 * hash + book.bankOf(i / 5, i % 5);
        }
        for (int i = 0; i < 24; i++) {
            hash = 31 * hash + book.cutter(i / 4, i % 4);
        }
        for (int day = 0; day <= 9; day++) {
            hash = 31 * hash + book.rain(day);
        }
        for (int what = 0; what <= 2; what++) {
            hash = 31 * hash + book.ifPassed(10, what);
        }
        hash = 31 * hash + Double.doubleToLongBits(book.dryness());
        hash = 31 * hash + book.buffer().length();
        for (char sign : book.buffer().toCharArray()) {
            hash = 31 * hash + sign;
        }
        return hash;
    }

    private void compare(String name, Checks.Call ofClass, Checks.Call ofBook) {
        calls++;
        call = name;
        got = Checks.outcome(ofClass);
        due = Checks.outcome(ofBook);
    }

    private int number(boolean wild, int lowest, int highest) {
        if (wild) {
            int[] odd = {lowest - 1, highest + 1, Integer.MIN_VALUE, Integer.MAX_VALUE, -1, 0, lowest, highest, 65536};
            return odd[random.nextInt(odd.length)];
        }
        return lowest + random.nextInt(highest - lowest + 1);
    }

    private void step(boolean wild) {
        int kind = random.nextInt(36);
        if (kind < 18) {
            change(kind, wild);
        } else if (kind < 24) {
            texts(kind, wild);
        } else {
            looks(kind, wild);
        }
    }

    private void change(int kind, boolean wild) {
        int w = number(wild, 0, 5);
        int h = number(wild, 0, 4);
        int b = number(wild, 0, 3);
        switch (kind) {
            case 0: {
                boolean isWidow = random.nextInt(3) == 0;
                int need = number(wild, 50, 900);
                compare("hearth(" + h + ", " + isWidow + ", " + need + ")", () -> x.hearth(h, isWidow, need),
                    () -> book.hearth(h, isWidow, need));
                break;
            }
            case 1: {
                int carts = number(wild, 10, 90);
                compare("track(" + b + ", " + carts + ")", () -> x.track(b, carts), () -> book.track(b, carts));
                break;
            }
            case 2: {
                int strength = number(wild, 5, 40);
                compare("strength(" + w + ", " + strength + ")", () -> x.strength(w, strength),
                    () -> book.strength(w, strength));
                break;
            }
            case 3: case 4: case 5: case 6:
                compare("work(" + w + ", " + h + ", " + b + ")", () -> x.work(w, h, b), () -> book.work(w, h, b));
                break;
            case 7:
                compare("rest(" + w + ")", () -> x.rest(w), () -> book.rest(w));
                break;
            case 8: case 9: {
                int from = number(wild, -1, 4);
                int to = number(wild, -1, 4);
                int many = wild ? number(true, 1, 12) : 1 + random.nextInt(4);
                compare("give(" + from + ", " + to + ", " + b + ", " + many + ")", () -> x.give(from, to, b, many),
                    () -> book.give(from, to, b, many));
                break;
            }
            case 10:
                compare("snow()", () -> x.snow(), () -> book.snow());
                break;
            case 11: case 12: case 13: {
                int days = wild || random.nextInt(8) == 0 ? number(wild, 1, 60) : 1 + random.nextInt(5);
                compare("pass(" + days + ")", () -> x.pass(days), () -> book.pass(days));
                break;
            }
            case 14: {
                int setting = number(wild, 0, 2);
                int value = number(wild, 0, new int[] {9, 50, 30}[Math.floorMod(setting, 3)]);
                compare("set(" + setting + ", " + value + ")", () -> x.set(setting, value), () -> book.set(setting, value));
                break;
            }
            case 15:
                compare("undo()", () -> x.undo(), () -> book.undo());
                break;
            case 16:
                if (random.nextInt(4) == 0) {
                    compare("keep()", () -> x.keep(), () -> book.keep());
                } else {
                    compare("undo()", () -> x.undo(), () -> book.undo());
                }
                break;
            default:
                if (random.nextInt(4) == 0) {
                    compare("restore()", () -> x.restore(), () -> book.restore());
                } else {
                    compare("snow()", () -> x.snow(), () -> book.snow());
                }
                break;
        }
    }

    private void texts(int kind, boolean wild) {
        if (kind < 21) {
            appendAll(wild ? randomSigns() : works());
        } else if (kind == 21) {
            int code = number(wild, 33, 126);
            compare("append(" + code + ")", () -> x.append(code), () -> book.append(code));
        } else if (kind == 22) {
            compare("clearBuffer()", () -> x.clearBuffer(), () -> book.clearBuffer());
        } else {
            compare("play()", () -> x.play(), () -> book.play());
        }
    }

    private String randomSigns() {
        StringBuilder all = new StringBuilder();
        for (int n = random.nextInt(9); n >= 0; n--) {
            all.append(SIGNS.charAt(random.nextInt(SIGNS.length())));
        }
        return all.toString();
    }

    private String works() {
        StringBuilder all = new StringBuilder(book.buffer().isEmpty() || random.nextInt(9) == 0 ? "" : ";");
        for (int n = random.nextInt(4); n >= 0; n--) {
            switch (random.nextInt(7)) {
                case 0: all.append('r').append(random.nextInt(6)); break;
                case 1: all.append('+').append(1 + random.nextInt(random.nextInt(5) == 0 ? 65 : 9)); break;
                case 2: all.append('*'); break;
                default:
                    all.append('c').append(random.nextInt(6)).append('>').append(random.nextInt(5)).append('/')
                        .append(random.nextInt(4));
            }
            all.append(n > 0 ? ";" : "");
        }
        return all.toString();
    }

    private void appendAll(String signs) {
        for (char sign : signs.toCharArray()) {
            compare("append(" + (int) sign + ")", () -> x.append(sign), () -> book.append(sign));
            if (!got.equals(due)) {
                return;
            }
        }
        compare("firstError() of " + book.buffer(), () -> x.firstError(), () -> book.firstError());
        if (got.equals(due) && random.nextInt(2) == 0) {
            compare("play() of " + book.buffer(), () -> x.play(), () -> book.play());
        }
    }

    private void looks(int kind, boolean wild) {
        int w = number(wild, 0, 5);
        int h = number(wild, 0, 4);
        int b = number(wild, 0, 3);
        int what = number(wild, 0, 4);
        switch (kind) {
            case 24: {
                int number = number(wild, 0, 11);
                compare("hearthOf(" + h + ", " + number + ")", () -> x.hearthOf(h, number), () -> book.hearthOf(h, number));
                break;
            }
            case 25:
                compare("bankOf(" + b + ", " + what + ")", () -> x.bankOf(b, what), () -> book.bankOf(b, what));
                break;
            case 26:
                compare("plot(" + h + ", " + b + ", " + what + ")", () -> x.plot(h, b, what), () -> book.plot(h, b, what));
                break;
            case 27:
                compare("cutter(" + w + ", " + what + ")", () -> x.cutter(w, what), () -> book.cutter(w, what));
                break;
            case 28: {
                int day = wild ? number(true, 0, 9) : random.nextInt(Integer.MAX_VALUE);
                compare("rain(" + day + ")", () -> x.rain(day), () -> book.rain(day));
                break;
            }
            case 29: {
                int number = number(wild, 0, 12);
                compare("count(" + number + ")", () -> x.count(number), () -> book.count(number));
                break;
            }
            case 30:
                compare("whyNot(" + w + ", " + h + ", " + b + ")", () -> x.whyNot(w, h, b), () -> book.whyNot(w, h, b));
                break;
            case 31: {
                int days = number(wild, 1, 60);
                compare("ifPassed(" + days + ", " + what + ")", () -> x.ifPassed(days, what), () -> book.ifPassed(days, what));
                break;
            }
            case 32:
                compare("enoughIn(" + h + ")", () -> x.enoughIn(h), () -> book.enoughIn(h));
                break;
            case 33:
                compare("bestBank(" + w + ", " + h + ")", () -> x.bestBank(w, h), () -> book.bestBank(w, h));
                break;
            case 34:
                compare("dryness()", () -> Double.doubleToLongBits(x.dryness()), () -> Double.doubleToLongBits(book.dryness()));
                break;
            default:
                compare("digest()", () -> x.digest(), () -> digestOfBook());
                break;
        }
    }
}
