/** Brings turves to where a test needs them; the setting 0 and the cutter 5 are used for it. */
final class Ground {
    /** Rain of which nothing dries and nothing becomes wet. */
    static final int IDLE = 5;
    static final int WET = 1;
    static final int FOOTED = 2;
    static final int DRY = 3;

    private Ground() {
    }

    /** One day passes, of just this rain: the day before would have 7 less, the day behind it 7 more (modulo 10). */
    static int dayOfRain(PeatHearths x, int rain) {
        int day = x.count(0) + 1;
        x.set(0, Math.floorMod(rain - 7 * day, 10));
        return x.pass(1);
    }

    /** So many (5 to 40) wet turves more; dry ones that are there already go home. */
    static void cutWet(PeatHearths x, int hearth, int bank, int many) {
        x.strength(5, many);
        x.work(5, hearth, bank);
        dayOfRain(x, IDLE);
        x.rest(5);
    }

    /** All turves on banks become dry, and stay there. */
    static void dryAll(PeatHearths x) {
        underSnow(x, 30);
    }

    static void underSnow(PeatHearths x, int days) {
        x.snow();
        x.pass(days);
        x.snow();
    }

    /** A dry pile (5 to 40) on one bank of one hearth. */
    static PeatHearths pile(int hearth, int bank, int many) {
        PeatHearths x = new PeatHearths();
        cutWet(x, hearth, bank, many);
        dryAll(x);
        return x;
    }

    /** A bank on which so many turves (0 to 35) are not cut; the others are another hearth's. */
    static void leave(PeatHearths x, int other, int bank, int many) {
        x.strength(5, 40);
        x.work(5, other, bank);
        x.pass(49);
        x.strength(5, 40 - many);
        x.pass(1);
        x.rest(5);
    }

    /** So many wet turves (1 to 35) of the hearth 0 on the bank 1; the other turves of the bank are the hearth 2's. */
    static PeatHearths fewWet(int many) {
        PeatHearths x = new PeatHearths();
        leave(x, 2, 1, many);
        x.strength(0, 40);
        x.work(0, 0, 1);
        dayOfRain(x, IDLE);
        x.rest(0);
        return x;
    }

    static String turves(PeatHearths x, int hearth, int bank) {
        return x.plot(hearth, bank, WET) + " " + x.plot(hearth, bank, FOOTED) + " " + x.plot(hearth, bank, DRY);
    }
}
