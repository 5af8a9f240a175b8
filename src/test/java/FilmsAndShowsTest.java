/** Promises 1 to 7: a new object, and the changes but for carryOut() and restore(). */
public final class FilmsAndShowsTest {
    private static final int NO_SUCH = -1, BAD_VALUE = -2, TOO_MANY = -4, NOT_POSSIBLE = -5, NONE = -6;
    private static final int[] OUT = {-1, Integer.MIN_VALUE, Integer.MAX_VALUE};
    private static final Checks CHECKS = new Checks("FilmsAndShowsTest");

    private FilmsAndShowsTest() {
    }

    public static void main(String[] arguments) {
        promise1NewObject();
        promise2Set();
        promise2SettingsAreUsed();
        promise3Film();
        promise4Show();
        promise5Drop();
        promise6Exchange();
        promise6ExchangeRefused();
        promise7Let();
        CHECKS.end();
    }

    private static void due(String call, long got, long want) {
        CHECKS.due(call, got, want);
    }

    private static void promise1NewObject() {
        VillageCinema x = new VillageCinema();
        int[] counts = {0, 0, 0, 0, 0, 1000000, 0, 0, 80, 6, 30, 40, 20, 0, 0};
        for (int what = 0; what < counts.length; what++) {
            due("count(" + what + ") of a new object", x.count(what), counts[what]);
        }
        for (int day = 0; day < 35; day++) {
            due("rent of a new object", x.rent(day), 0);
            due("afternoon of a new object", x.at(day, 0, 0), NONE);
            due("evening of a new object", x.at(day, 1, 0), NONE);
        }
        due("of a new object", x.of(0, 0), NO_SUCH);
        due("undo of a new object", x.undo(), NOT_POSSIBLE);
        due("restore(0) of a new object", x.restore(0), NOT_POSSIBLE);
        due("restore(1) of a new object", x.restore(1), NOT_POSSIBLE);
        due("fault of a new object", x.fault(), 0);
    }

    private static void promise2Set() {
        int[] least = {10, 1, 0, 1, 1};
        int[] most = {300, 20, 200, 100, 100};
        int[] first = {80, 6, 30, 40, 20};
        VillageCinema x = new VillageCinema();
        for (int setting = 0; setting < 5; setting++) {
            due("too small " + setting, x.set(setting, least[setting] - 1), BAD_VALUE);
            due("too great " + setting, x.set(setting, most[setting] + 1), BAD_VALUE);
            for (int value : OUT) {
                due("out of range " + setting, x.set(setting, value), BAD_VALUE);
            }
            due("nothing is changed by errors", x.count(8 + setting), first[setting]);
            due("nor recorded", x.count(14), setting == 0 ? 0 : Math.min(6, setting * 3));
            due("set to the least " + setting, x.set(setting, least[setting]), first[setting]);
            due("is the least " + setting, x.count(8 + setting), least[setting]);
            due("set to the most " + setting, x.set(setting, most[setting]), least[setting]);
            due("set to the same " + setting, x.set(setting, most[setting]), most[setting]);
            due("is the most " + setting, x.count(8 + setting), most[setting]);
        }
        due("no setting 5", x.set(5, 10), BAD_VALUE);
        for (int setting : OUT) {
            due("no such setting", x.set(setting, 10), BAD_VALUE);
        }
    }

    private static void promise2SettingsAreUsed() {
        VillageCinema x = new VillageCinema();
        x.film(0, 300, 0, 50, 0);
        x.show(0, 0, 0);
        x.show(0, 0, 1);
        due("20 of 100 in the afternoon", x.at(0, 0, 1), 60);
        due("seats of the evening", x.at(0, 1, 1), 80);
        due("what is left", x.count(5), 1000000 + 840 - 420 - 60);
        x.set(VillageCinema.SEATS, 70);
        due("fewer seats", x.at(0, 1, 1), 70);
        x.set(VillageCinema.SEATS, 300);
        due("40 of 100 in the evening", x.at(0, 1, 1), 96);
        x.set(VillageCinema.EVENING, 50);
        due("50 of 100 in the evening", x.at(0, 1, 1), 120);
        x.set(VillageCinema.AFTERNOON, 33);
        due("33 of 100 in the afternoon", x.at(0, 0, 1), 99);
        due("and fewer in the evening", x.at(0, 1, 1), 100);
        x.set(VillageCinema.PRICE, 7);
        due("a price", x.at(0, 1, 2), 700);
        x.set(VillageCinema.COST, 11);
        due("a cost", x.count(5), 1000000 + 1393 - 696 - 22);
    }

    private static void promise3Film() {
        VillageCinema x = new VillageCinema();
        int[][] bad = {{4, 1, 0, 20, 0}, {0, 0, 0, 20, 0}, {0, 1000, 0, 20, 0}, {0, 1, -1, 20, 0}, {0, 1, 501, 20, 0},
            {0, 1, 0, 19, 0}, {0, 1, 0, 91, 0}, {0, 1, 0, 20, 35}, {-1, 1, 0, 20, 0}, {0, 1, 0, 20, -1}};
        for (int[] film : bad) {
            due("a film out of range", x.film(film[0], film[1], film[2], film[3], film[4]), BAD_VALUE);
        }
        for (int out : OUT) {
            due("distributor", x.film(out, 1, 0, 20, 0), BAD_VALUE);
            due("crowd", x.film(0, out, 0, 20, 0), BAD_VALUE);
            due("minimum", x.film(0, 1, out, 20, 0), BAD_VALUE);
            due("share", x.film(0, 1, 0, out, 0), BAD_VALUE);
            due("first day", x.film(0, 1, 0, 20, out), BAD_VALUE);
        }
        due("no film came", x.count(0), 0);
        due("nothing recorded", x.count(14), 0);
        due("the least film", x.film(0, 1, 0, 20, 0), 0);
        due("the greatest film", x.film(3, 999, 500, 90, 34), 1);
        for (int film = 2; film < 8; film++) {
            due("film " + film, x.film(film % 4, 100 + film, film, 20 + film, film), film);
        }
        due("a ninth film", x.film(0, 1, 0, 20, 0), TOO_MANY);
        due("a ninth film out of range", x.film(0, 1, 0, 19, 0), BAD_VALUE);
        due("eight films", x.count(0), 8);
        int[] greatest = {3, 999, 500, 90, 34, 0, 0, 0, 0, 999, NONE};
        int[] seventh = {3, 107, 7, 27, 7};
        for (int what = 0; what < 11; what++) {
            due("of(1, " + what + ")", x.of(1, what), greatest[what]);
        }
        for (int what = 0; what < 5; what++) {
            due("of(7, " + what + ")", x.of(7, what), seventh[what]);
        }
    }

    private static void promise4Show() {
        VillageCinema x = new VillageCinema();
        due("no such film before a bad day", x.show(0, 35, 2), NO_SUCH);
        x.film(0, 200, 0, 50, 3);
        x.film(1, 100, 0, 50, 0);
        due("no film 2", x.show(2, 0, 0), NO_SUCH);
        due("no film NONE", x.show(NONE, 0, 0), NO_SUCH);
        for (int out : OUT) {
            due("film", x.show(out, 0, 0), NO_SUCH);
            due("day", x.show(0, out, 0), BAD_VALUE);
            due("part", x.show(0, 5, out), BAD_VALUE);
        }
        due("day 35", x.show(0, 35, 0), BAD_VALUE);
        due("part 2", x.show(0, 5, 2), BAD_VALUE);
        due("ahead of the first day", x.show(0, 2, 1), NOT_POSSIBLE);
        due("nothing recorded", x.count(14), 2);
        due("on the first day", x.show(0, 3, 0), NONE);
        due("recorded", x.count(14), 3);
        due("only there", x.at(3, 1, 0), NONE);
        due("in its place", x.show(1, 3, 0), 0);
        due("the other one", x.at(3, 0, 0), 1);
        due("the same again", x.show(1, 3, 0), 1);
        due("one show", x.count(1), 1);
        due("the last place", x.show(0, 34, 1), NONE);
        due("it is there", x.at(34, 1, 0), 0);
        x.let(10, 1);
        due("a day that is let", x.show(0, 10, 1), NOT_POSSIBLE);
        due("a bad part of it", x.show(0, 10, 2), BAD_VALUE);
        due("nothing there", x.at(10, 1, 0), NONE);
        x.let(10, 0);
        due("not let any more", x.show(0, 10, 1), NONE);
    }

    private static void promise5Drop() {
        VillageCinema x = new VillageCinema();
        x.film(0, 200, 0, 50, 0);
        x.film(0, 200, 0, 50, 0);
        x.show(1, 0, 0);
        x.show(0, 34, 1);
        for (int out : OUT) {
            due("day", x.drop(out, 0), BAD_VALUE);
            due("part", x.drop(0, out), BAD_VALUE);
        }
        due("day 35", x.drop(35, 0), BAD_VALUE);
        due("part 2", x.drop(0, 2), BAD_VALUE);
        due("none there", x.drop(0, 1), NOT_POSSIBLE);
        due("nothing recorded", x.count(14), 4);
        due("film 1", x.drop(0, 0), 1);
        due("recorded", x.count(14), 5);
        due("nothing there", x.at(0, 0, 0), NONE);
        due("not twice", x.drop(0, 0), NOT_POSSIBLE);
        due("film 0", x.drop(34, 1), 0);
        due("no shows", x.count(1), 0);
    }

    private static void promise6Exchange() {
        VillageCinema x = new VillageCinema();
        x.film(0, 100, 0, 50, 0);
        x.film(1, 100, 0, 50, 7);
        x.show(0, 7, 0);
        x.show(1, 7, 1);
        // Film 0 was at 15 of 75 in the afternoon, film 1 at 40 of 100 in the evening.
        due("before", x.count(5), 1000000 + 90 - 45 + 240 - 120 - 60);
        due("the parts of a day", x.exchange(7, 0, 7, 1), 1000000 + 180 - 90 + 120 - 60 - 165);
        due("film 1 ahead", x.at(7, 0, 0), 1);
        due("film 0 behind", x.at(7, 1, 0), 0);
        due("20 come", x.at(7, 0, 1), 20);
        due("30 come", x.at(7, 1, 1), 30);
        due("with none", x.exchange(7, 1, 0, 1), 1000000 + 30);
        due("moved", x.at(0, 1, 0), 0);
        due("none left there", x.at(7, 1, 0), NONE);
        due("back, and less", x.exchange(7, 1, 0, 1), 1000000 - 30);
        due("two without a show", x.exchange(1, 0, 34, 1), 1000000);
        due("a place with itself", x.exchange(7, 1, 7, 1), 1000000);
        due("each is recorded", x.count(14), 6);
        due("it is still there", x.at(7, 1, 0), 0);
    }

    private static void promise6ExchangeRefused() {
        VillageCinema x = new VillageCinema();
        x.film(0, 100, 0, 50, 0);
        x.film(1, 100, 0, 50, 7);
        x.show(0, 6, 0);
        x.show(1, 7, 1);
        x.let(20, 5);
        for (int out : OUT) {
            due("day", x.exchange(out, 0, 0, 0), BAD_VALUE);
            due("part", x.exchange(0, out, 0, 0), BAD_VALUE);
            due("other day", x.exchange(0, 0, out, 0), BAD_VALUE);
            due("other part", x.exchange(0, 0, 0, out), BAD_VALUE);
        }
        due("day 35", x.exchange(35, 0, 0, 0), BAD_VALUE);
        due("part 2", x.exchange(0, 2, 0, 0), BAD_VALUE);
        due("other day 35", x.exchange(0, 0, 35, 0), BAD_VALUE);
        due("other part 2 of a day that is let", x.exchange(20, 0, 0, 2), BAD_VALUE);
        due("ahead of its first day", x.exchange(7, 1, 6, 1), NOT_POSSIBLE);
        due("the other one ahead of it", x.exchange(6, 0, 7, 1), NOT_POSSIBLE);
        due("to a day that is let", x.exchange(6, 0, 20, 0), NOT_POSSIBLE);
        due("from a day that is let", x.exchange(20, 1, 6, 0), NOT_POSSIBLE);
        due("nothing with a day that is let", x.exchange(20, 0, 20, 0), NOT_POSSIBLE);
        due("nothing recorded", x.count(14), 5);
        due("film 0 is where it was", x.at(6, 0, 0), 0);
        due("film 1 is where it was", x.at(7, 1, 0), 1);
        due("on its first day", x.exchange(7, 1, 7, 0), 1000000 - 60);
    }

    private static void promise7Let() {
        VillageCinema x = new VillageCinema();
        x.film(0, 100, 0, 50, 0);
        x.show(0, 5, 0);
        x.show(0, 5, 1);
        x.show(0, 6, 0);
        x.show(0, 4, 1);
        for (int out : OUT) {
            due("day", x.let(out, 1), BAD_VALUE);
            due("rent", x.let(0, out), BAD_VALUE);
        }
        due("day 35", x.let(35, 1), BAD_VALUE);
        due("rent 1000", x.let(5, 1000), BAD_VALUE);
        due("nothing recorded", x.count(14), 5);
        due("not let any more, though it was not", x.let(5, 0), 0);
        due("recorded", x.count(14), 6);
        due("no show is dropped", x.count(1), 4);
        due("two shows", x.let(5, 999), 2);
        due("its rent", x.rent(5), 999);
        due("two shows are left", x.count(1), 2);
        due("the evening before", x.at(4, 1, 0), 0);
        due("it is dropped", x.drop(4, 1), 0);
        due("none in the evening", x.at(5, 1, 0), NONE);
        due("one show", x.let(6, 1), 1);
        due("a new rent", x.let(5, 20), 0);
        due("the new rent", x.rent(5), 20);
        due("the rents", x.count(6), 21);
        due("not let", x.let(5, 0), 0);
        due("no rent", x.rent(5), 0);
        due("the shows don't come back", x.count(1), 0);
        due("day 34", x.let(34, 7), 0);
        due("what is left", x.count(5), 1000008);
    }
}
