import java.util.Arrays;
import java.util.stream.IntStream;

/** What the boundary tests share: values beyond a range, halls to begin with, and a name for each sentence. */
abstract class Boundaries {
    static final int NO_SUCH = -1, BAD_VALUE = -2, BAD_TEXT = -3, TOO_MANY = -4, NOT_POSSIBLE = -5, NONE = -6;
    static final int MILLION = 1000000;
    static final int[][] SETTING_RANGES = {{10, 300}, {1, 20}, {0, 200}, {1, 100}, {1, 100}};
    static final int[] FIRST_SETTINGS = {80, 6, 30, 40, 20};

    // Far off, or such that an int or a narrower number wraps around into a range when it is doubled,
    // multiplied by 5 or 7, or cut to fewer bits.
    private static final int[] FAR = {-2, -5, -6, -7, -34, -256, -65536, Integer.MIN_VALUE, Integer.MIN_VALUE + 1,
        Integer.MAX_VALUE, Integer.MAX_VALUE - 1, 1 << 30, -(1 << 30), 1 << 16, 858993460, -858993459, 613566757};

    private final Checks checks;

    Boundaries(Checks checks) {
        this.checks = checks;
    }

    abstract void run();

    final void sentence(int promise, String words, Runnable test) {
        checks.sentence(promise, words, test);
    }

    final void due(String call, long got, long want) {
        checks.due(call, got, want);
    }

    final void same(String what, String got, String want) {
        checks.isTrue(what, got.equals(want));
    }

    /** Values beyond a range: those beside it, and those far from it. */
    static int[] beyond(int least, int most) {
        int[] beside = {least - 1, most + 1, least - 256, most + 256, least + 65536, most + 65536};
        return IntStream.concat(Arrays.stream(beside), Arrays.stream(FAR))
            .filter(value -> value < least || value > most).distinct().toArray();
    }

    /** A hall with a film for each of these crowds: no minimum, a share of 50, and shown from day 0 on. */
    static VillageCinema hall(int... crowds) {
        VillageCinema x = new VillageCinema();
        for (int crowd : crowds) {
            x.film(0, crowd, 0, 50, 0);
        }
        return x;
    }

    /** A hall with one film from a day on; all of its people come to the first show of an evening. */
    static VillageCinema allCome(int crowd, int firstDay) {
        VillageCinema x = new VillageCinema();
        x.set(VillageCinema.SEATS, 300);
        x.set(VillageCinema.EVENING, 100);
        x.film(0, crowd, 0, 50, firstDay);
        return x;
    }

    /** A hall in which all 70 places have a show of film 0. */
    static VillageCinema allShown() {
        VillageCinema x = hall(999);
        for (int place = 0; place < 70; place++) {
            x.show(0, place / 2, place % 2);
        }
        return x;
    }
}
