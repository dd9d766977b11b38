/** Promises 11 to 14: texts. */
final class TextsTest {
    private static final Class<IllegalArgumentException> ARGUMENT = IllegalArgumentException.class;
    private static final Class<IllegalStateException> STATE = IllegalStateException.class;

    static void run(Checks c) {
        append(c);
        clear(c);
        errors(c);
        everyPrefix(c);
        play(c);
        playStops(c);
        playRefused(c);
        playEveryNumber(c);
    }

    private static void append(Checks c) {
        c.section("promise 11");
        PeatHearths x = new PeatHearths();
        c.dueThrow("append(32)", x, ARGUMENT, () -> x.append(32));
        c.dueThrow("append(127)", x, ARGUMENT, () -> x.append(127));
        c.dueThrow("append(-1)", x, ARGUMENT, () -> x.append(-1));
        c.dueThrow("append(65536 + 42)", x, ARGUMENT, () -> x.append(65536 + 42));
        c.due("append(33)", x.append(33), 1);
        c.due("append(126)", x.append(126), 2);
        for (int n = 3; n <= 60; n++) {
            c.due("append(42)", x.append(42), n);
        }
        c.dueThrow("a 61st", x, STATE, () -> x.append(42));
        c.dueThrow("a wrong 61st", x, ARGUMENT, () -> x.append(32));
        c.due("no state is saved", x.count(12), 0);
    }

    private static void clear(Checks c) {
        c.section("promise 12");
        PeatHearths x = new PeatHearths();
        Calls.type(x, "c0>");
        c.due("clearBuffer()", x.clearBuffer(), 3);
        c.due("again", x.clearBuffer(), 0);
        c.due("no state is saved", x.count(12), 0);
        c.due("append(42)", x.append(42), 1);
        c.due("what was there is gone", x.firstError(), 1);
    }

    private static void errors(Checks c) {
        c.section("promise 13");
        c.due("of an empty buffer", new PeatHearths().firstError(), 0);
        String[] texts = {"x", "C0", "c6", "c0/", "c0>5", "c0>0/4", "c0>0>", "c0>0/0>", "c0>0/00", "r6", "r00", "rr",
            "+0", "+61", "+70", "+600", "+100", "+1+", "+x", "**", "*;;", ";", "*;x", "*;r5;+59;c5>4/3x", "+5;+6;+60;+6:",
            "c;", "r;", "+;", "c0>0/0;c0>0/0;*c", "+69", "+66", "6", "+ "};
        int[] errors = {0, 0, 1, 2, 3, 5, 4, 6, 6, 1, 2, 1,
            1, 2, 2, 3, 3, 2, 1, 1, 2, 0, 2, 15, 12,
            1, 1, 1, 15, 2, 2, 0, -1};
        for (int i = 0; i < texts.length; i++) {
            if (errors[i] >= 0) {
                c.due("firstError of " + texts[i], Calls.errorOf(texts[i]), errors[i]);
            }
        }
        String[] right = {"c", "c0", "c5>", "c5>4", "c5>4/", "c5>4/3", "r", "r5", "+", "+1", "+9", "+6", "+60", "+10",
            "+59", "*", "*;", "*;*;*", "+60;c0>0/0;r0;*"};
        for (String text : right) {
            c.due("firstError of " + text, Calls.errorOf(text), text.length());
        }
        PeatHearths x = new PeatHearths();
        Calls.type(x, "*;x");
        x.firstError();
        c.due("no state is saved", x.count(12), 0);
    }

    /** Every sign behind every kind of beginning: right or an error as a list tells. */
    private static void everyPrefix(Checks c) {
        String[] begins = {"", "c", "c3", "c3>", "c3>2", "c3>2/", "c3>2/1", "r", "r2", "+", "+1", "+5", "+6", "+7", "+10",
            "+60", "*", "*;"};
        String[] nexts = {"cr+*", "012345", ">", "01234", "/", "0123", ";", "012345", ";", "123456789", "0123456789;",
            "0123456789;", "0;", ";", ";", ";", ";", "cr+*"};
        for (int i = 0; i < begins.length; i++) {
            for (char sign = 33; sign <= 126; sign++) {
                int due = begins[i].length() + (nexts[i].indexOf(sign) >= 0 ? 1 : 0);
                c.due("firstError of " + begins[i] + sign, Calls.errorOf(begins[i] + sign), due);
            }
        }
    }

    private static void play(Checks c) {
        c.section("promise 14");
        PeatHearths x = new PeatHearths();
        c.due("c0>0/1;+12;r0;*;+3", Calls.playText(x, "c0>0/1;+12;r0;*;+3"), 5);
        PeatHearths y = new PeatHearths();
        y.work(0, 0, 1);
        y.pass(12);
        y.rest(0);
        y.snow();
        y.pass(3);
        c.due("one state is saved", x.count(12), 1);
        c.due("the buffer is empty", x.clearBuffer(), 0);
        for (int what = 0; what < 12; what++) {
            c.due("count(" + what + ")", x.count(what), y.count(what));
        }
        c.due("undo takes back all", x.undo(), 0);
        c.due("digest", x.digest(), new PeatHearths().digest());
        c.due("a part alone", Calls.playText(x, "+60"), 1);
        c.due("the day", x.count(0), 60);
        c.due("fifteen parts", Calls.playText(x, "*;*;*;*;*;*;*;*;*;*;*;*;*;*;*"), 15);
        c.due("snow", x.count(1), 1);
    }

    private static void playStops(Checks c) {
        c.section("promise 14, up to the first that is not possible");
        PeatHearths x = new PeatHearths();
        c.due("nothing is done", Calls.playText(x, "c0>0/0;+9"), 0);
        c.due("the day", x.count(0), 0);
        c.due("it is saved all the same", x.count(12), 1);
        c.due("the buffer is cleared", x.clearBuffer(), 0);
        c.due("two are done", Calls.playText(x, "+9;r3;c0>4/1;+9"), 2);
        c.due("the day", x.count(0), 9);
        c.due("snow stops a work", Calls.playText(x, "c1>1/0;*;c0>0/1"), 2);
        c.due("snow", x.count(1), 1);
        c.due("full", Calls.playText(x, "*;c0>0/1;c1>0/1;c2>0/1;c0>0/1;+5"), 4);
        c.due("at work", x.plot(0, 1, 4), 3);
    }

    private static void playRefused(Checks c) {
        c.section("promise 14, not complete");
        PeatHearths x = new PeatHearths();
        c.dueThrow("play() of nothing", x, ARGUMENT, () -> x.play());
        String[] texts = {"c", "c0", "c0>", "c0>1", "c0>1/", "r", "+", "*;", "+1;", "x", "+61", "**", "+60;c0>1/0;r"};
        for (String text : texts) {
            Calls.type(x, text);
            c.dueThrow("play() of " + text, x, ARGUMENT, () -> x.play());
            c.due("the buffer stays", x.clearBuffer(), text.length());
        }
        c.due("no state is saved", x.count(12), 0);
    }

    private static void playEveryNumber(Checks c) {
        c.section("promise 14, every number");
        for (int days = 1; days <= 60; days++) {
            PeatHearths x = new PeatHearths();
            c.due("+" + days + ";r0", Calls.playText(x, "+" + days + ";r0"), 2);
            c.due("the day behind +" + days, x.count(0), days);
        }
        for (int w = 0; w < 6; w++) {
            for (int h = 0; h < 5; h++) {
                for (int b = 0; b < 4; b++) {
                    playOneWork(c, w, h, b);
                }
            }
        }
    }

    private static void playOneWork(Checks c, int w, int h, int b) {
        PeatHearths x = new PeatHearths();
        boolean isPossible = h != b && h != 4;
        c.due("c" + w + ">" + h + "/" + b, Calls.playText(x, "c" + w + ">" + h + "/" + b), isPossible ? 1 : 0);
        c.due("hearth of it", x.cutter(w, 1), isPossible ? h : -1);
        c.due("bank of it", x.cutter(w, 2), isPossible ? b : -1);
        c.due("at work", x.count(2), isPossible ? 1 : 0);
        Calls.playText(x, "r" + (w + 1) % 6);
        c.due("another one rests", x.cutter(w, 1), isPossible ? h : -1);
        Calls.playText(x, "r" + w);
        c.due("rests", x.cutter(w, 1), -1);
    }
}
