/** Shorthands that several tests use. */
final class Calls {
    private Calls() {
    }

    static void type(PeatHearths x, String text) {
        for (int i = 0; i < text.length(); i++) {
            x.append(text.charAt(i));
        }
    }

    /** The first syntax error of a text, on an object of its own: one is used for at most 512 calls. */
    static int errorOf(String text) {
        PeatHearths x = new PeatHearths();
        type(x, text);
        return x.firstError();
    }

    static int playText(PeatHearths x, String text) {
        type(x, text);
        return x.play();
    }
}
