/** The sentences on texts that name a boundary: the length of the buffer, numbers, and where a text ends. */
final class TextBoundsTest {
    private static final Class<IllegalArgumentException> ARGUMENT = IllegalArgumentException.class;
    private static final Class<IllegalStateException> STATE = IllegalStateException.class;

    static void run(Checks c) {
        sixtyCharacters(c);
        sixtyAreWorks(c);
        ofAnyLength(c);
        firstOfSeveralErrors(c);
        noLeadingZero(c);
        numbersOfEachPart(c);
        oneOrMoreParts(c);
        stopsAtEachReason(c);
        longerTextBefore(c);
        doesNotComeBack(c);
    }

    private static String many(String part, int times) {
        StringBuilder all = new StringBuilder();
        for (int n = 0; n < times; n++) {
            all.append(part);
        }
        return all.toString();
    }

    private static void sixtyCharacters(Checks c) {
        c.section("\"The buffer has at most 60 characters\"");
        PeatHearths x = new PeatHearths();
        for (int n = 1; n <= 60; n++) {
            c.due("append", x.append(32 + n), n);
        }
        for (int n = 0; n < 3; n++) {
            c.dueThrow("a 61st", x, STATE, () -> x.append(33));
        }
        c.due("clearBuffer() of 60", x.clearBuffer(), 60);
        c.due("clearBuffer() of none", x.clearBuffer(), 0);
        for (int n = 1; n <= 59; n++) {
            x.append(42);
        }
        c.due("the 60th", x.append(126), 60);
        c.dueThrow("a 61st", x, STATE, () -> x.append(126));
        c.due("clearBuffer()", x.clearBuffer(), 60);
        c.due("one more", x.append(126), 1);
        c.due("clearBuffer() of one", x.clearBuffer(), 1);
    }

    private static void sixtyAreWorks(Checks c) {
        c.section("promises 13 and 14: 60 characters");
        PeatHearths x = new PeatHearths();
        Calls.type(x, many("*;", 29) + "+1");
        c.due("firstError()", x.firstError(), 60);
        c.due("30 parts", x.play(), 30);
        c.due("snow came and went", x.count(1), 1);
        c.due("the day", x.count(0), 1);
        c.due("the buffer is empty", x.clearBuffer(), 0);
        c.due("no error of an empty buffer", x.firstError(), 0);
        Calls.type(x, many("r0;", 19) + "+60");
        c.due("firstError()", x.firstError(), 60);
        c.due("20 parts", x.play(), 20);
        c.due("the day", x.count(0), 61);
        PeatHearths y = new PeatHearths();
        Calls.type(y, many("+9;", 18) + "c5>3/2");
        c.due("firstError()", y.firstError(), 60);
        c.due("19 parts", y.play(), 19);
        c.due("the last part", y.cutter(5, 2), 2);
        c.due("the day", y.count(0), 162);
    }

    private static void ofAnyLength(Checks c) {
        c.section("\"if no works as a text, of any length, begin with\"");
        String[] ends = {";", "c", "c0", "c0>", "c0>0", "c0>0/", "r", "+"};
        for (String end : ends) {
            String text = end.equals(";") ? many("*;", 30) : begin(60 - end.length()) + end;
            PeatHearths x = new PeatHearths();
            Calls.type(x, text);
            c.due("60 characters that end with " + end, x.firstError(), 60);
            c.dueThrow("play() of them", x, ARGUMENT, () -> x.play());
            c.due("the buffer stays", x.clearBuffer(), 60);
        }
        PeatHearths x = new PeatHearths();
        Calls.type(x, begin(59) + "x");
        c.due("an error at the 60th", x.firstError(), 59);
        c.dueThrow("play()", x, ARGUMENT, () -> x.play());
    }

    /** Whole parts and a ";", so many characters together. */
    private static String begin(int length) {
        return length % 2 == 0 ? many("*;", length / 2) : "r0;" + many("*;", (length - 3) / 2);
    }

    private static void firstOfSeveralErrors(Checks c) {
        c.section("promise 13: \"the first character that is a syntax error\"");
        PeatHearths x = new PeatHearths();
        String[] texts = {"xx", "x;*", "*x*", "r7;r8", "c9>9/9", "+0;+0", "r0 r0".replace(' ', '!'), ">c0>0/0"};
        int[] errors = {0, 0, 1, 1, 1, 1, 2, 0};
        for (int n = 0; n < texts.length; n++) {
            c.due("firstError of " + texts[n], Calls.errorOf(texts[n]), errors[n]);
        }
        Calls.type(x, "r6");
        c.due("firstError()", x.firstError(), 1);
        Calls.type(x, ";r0;r1");
        c.due("it stays where it is", x.firstError(), 1);
        c.due("and is told again", x.firstError(), 1);
        x.clearBuffer();
        c.due("none behind clearBuffer()", x.firstError(), 0);
    }

    private static void noLeadingZero(Checks c) {
        c.section("\"numbers without a leading zero\"");
        String[] wrong = {"+0", "+00", "+01", "+09", "+060"};
        for (String text : wrong) {
            c.due("firstError of " + text, Calls.errorOf(text), 1);
        }
        String[] more = {"c00>0/0", "c0>00/0", "c0>0/00", "r00", "r05"};
        int[] errors = {2, 4, 6, 2, 2};
        for (int n = 0; n < more.length; n++) {
            c.due("firstError of " + more[n], Calls.errorOf(more[n]), errors[n]);
        }
    }

    private static void numbersOfEachPart(Checks c) {
        c.section("\"a cutter, 0 to 5 .. a hearth, 0 to 4 .. a bank, 0 to 3 .. days, 1 to 60\"");
        for (int digit = 0; digit <= 9; digit++) {
            c.due("cutter " + digit, Calls.errorOf("c" + digit), digit <= 5 ? 2 : 1);
            c.due("hearth " + digit, Calls.errorOf("c5>" + digit), digit <= 4 ? 4 : 3);
            c.due("bank " + digit, Calls.errorOf("c5>4/" + digit), digit <= 3 ? 6 : 5);
            c.due("who rests " + digit, Calls.errorOf("r" + digit), digit <= 5 ? 2 : 1);
            c.due("days " + digit, Calls.errorOf("+" + digit), digit >= 1 ? 2 : 1);
        }
        for (int days = 10; days <= 99; days++) {
            c.due("days " + days, Calls.errorOf("+" + days), days <= 60 ? 3 : 2);
            c.due("days " + days + "0", Calls.errorOf("+" + days + "0"), days <= 60 ? 3 : 2);
        }
    }

    private static void oneOrMoreParts(Checks c) {
        c.section("\"one or more parts with ';' between them\"");
        PeatHearths x = new PeatHearths();
        String[] right = {"*", "*;*", "r0", "r0;*", "+1", "+6;r5", "+10", "+60;+6", "c0>0/1", "c1>2/3;c0>0/1"};
        int[] parts = {1, 2, 1, 2, 1, 2, 1, 2, 1, 2};
        for (int n = 0; n < right.length; n++) {
            PeatHearths y = new PeatHearths();
            c.due("play of " + right[n], Calls.playText(y, right[n]), parts[n]);
        }
        String[] wrong = {"", ";", "*;", ";*", "*;;*", "r0;", "+1;", "c0>0/1;", "c0>0/1;;", "**", "r0r1", "+1+1", "*r0"};
        for (String text : wrong) {
            Calls.type(x, text);
            c.dueThrow("play of '" + text + "'", x, ARGUMENT, () -> x.play());
            c.due("the buffer stays", x.clearBuffer(), text.length());
        }
        c.due("nothing is saved", x.count(12), 0);
    }

    private static void stopsAtEachReason(Checks c) {
        c.section("promise 14: \"up to the first work that is not possible\"");
        PeatHearths x = new PeatHearths();
        c.due("reason 1", Calls.playText(x, "+1;c0>0/1;c0>4/1;+1"), 2);
        c.due("the day", x.count(0), 1);
        c.due("the cutter stays at work", x.cutter(0, 1), 0);
        x.give(0, -1, 1, 2);
        c.due("reason 2", Calls.playText(x, "r1;c1>0/1;*;+1"), 1);
        c.due("the day", x.count(0), 1);
        c.due("reason 4", Calls.playText(x, "*;+2;c0>0/1;+1"), 2);
        c.due("the day", x.count(0), 3);
        x.snow();
        Ground.leave(x, 2, 1, 0);
        int day = x.count(0);
        c.due("reason 3", Calls.playText(x, "+1;r0;+1;c0>0/1;*"), 3);
        c.due("the day", x.count(0), day + 2);
        c.due("no snow", x.count(1), 0);
        c.due("the buffer is clear", x.clearBuffer(), 0);
        c.due("the first part of all", Calls.playText(x, "c0>0/1"), 0);
        c.due("room by a part before", Calls.playText(x, "c0>0/3;c1>0/3;c2>0/3;r1;c3>0/3;c1>0/3;+1"), 5);
    }

    private static void longerTextBefore(Checks c) {
        c.section("promises 12 to 14: nothing is left of a longer text");
        PeatHearths x = new PeatHearths();
        Calls.type(x, "+60");
        x.clearBuffer();
        c.due("+6", Calls.playText(x, "+6"), 1);
        c.due("the day", x.count(0), 6);
        c.due("*;+12", Calls.playText(x, "*;+12"), 2);
        c.due("*;+1", Calls.playText(x, "*;+1"), 2);
        c.due("the day", x.count(0), 6 + 12 + 1);
        Calls.type(x, "r0;r1;r2");
        x.clearBuffer();
        c.due("r3", Calls.playText(x, "r3"), 1);
        Calls.type(x, "*;x");
        x.clearBuffer();
        Calls.type(x, "*;");
        c.due("firstError()", x.firstError(), 2);
    }

    private static void doesNotComeBack(Checks c) {
        c.section("\"all .. but the buffer\"");
        PeatHearths x = new PeatHearths();
        Calls.playText(x, "+5");
        Calls.type(x, "r0");
        x.keep();
        x.clearBuffer();
        Calls.type(x, "c0>0");
        x.undo();
        c.due("undo leaves the buffer", x.firstError(), 4);
        x.restore();
        c.due("restore leaves the buffer", x.clearBuffer(), 4);
        c.due("the day", x.count(0), 5);
    }
}
