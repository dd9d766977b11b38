/** Shorthands that several tests use. */
final class Calls {
    private Calls() {
    }

    static void type(PeatHearths x, String text) {
        for (int i = 0; i < text.length(); i++) {
            x.append(text.charAt(i));
        }
    }

    /** What the first syntax error of a text is, on an object whose buffer is empty before and after. */
    static int errorOf(PeatHearths x, String text) {
        type(x, text);
        int error = x.firstError();
        x.clearBuffer();
        return error;
    }

    static int playText(PeatHearths x, String text) {
        type(x, text);
        return x.play();
    }
}
