/** Promises 9 to 15, and what the terms say of people and money. */
public final class TellingTest {
    private static final int NO_SUCH = -1, BAD_VALUE = -2, NONE = -6;
    private static final int[] OUT = {-1, -6, Integer.MIN_VALUE, Integer.MAX_VALUE};
    private static final Checks CHECKS = new Checks("TellingTest");

    private TellingTest() {
    }

    public static void main(String[] arguments) {
        peopleFade();
        sharesFall();
        duesAreRoundedFilmByFilm();
        promise9At();
        promise10Of();
        promise11InWeek();
        promise12Week();
        promise13Distributor();
        promise14Rent();
        promise15Count();
        nothingChanges();
        CHECKS.end();
    }

    private static void due(String call, long got, long want) {
        CHECKS.due(call, got, want);
    }

    private static void peopleFade() {
        VillageCinema x = new VillageCinema();
        x.film(0, 103, 0, 50, 0);
        x.film(0, 103, 0, 50, 13);
        x.film(0, 103, 0, 50, 14);
        x.film(0, 103, 0, 50, 34);
        x.film(0, 3, 0, 50, 0);
        // 103, 78, 59, 45, 34: each time a fourth, rounded down, goes.
        due("four times", x.of(0, 9), 34);
        due("three times, though the first day is the last of its week", x.of(1, 9), 45);
        due("twice", x.of(2, 9), 59);
        due("never in the week of the first day", x.of(3, 9), 103);
        due("a fourth of 3 is none", x.of(4, 9), 3);
        x.show(0, 6, 1);
        due("41 of 103", x.at(6, 1, 1), 41);
        due("62 are left", x.at(6, 1, 3), 62);
        x.show(0, 7, 0);
        due("9 of 47", x.at(7, 0, 1), 9);
        due("38 are left", x.at(7, 0, 3), 38);
        x.show(0, 21, 0);
        // 38, 29, 22.
        due("4 of 22", x.at(21, 0, 1), 4);
        due("18, 14", x.of(0, 9), 14);
        x.show(0, 0, 0);
        due("20 of 103", x.at(0, 0, 1), 20);
        due("33 of 83", x.at(6, 1, 1), 33);
        x.set(VillageCinema.EVENING, 100);
        x.show(0, 8, 1);
        due("all come", x.at(8, 1, 3), 0);
        due("none come", x.at(21, 0, 1), 0);
        due("none are left", x.at(21, 0, 3), 0);
    }

    private static void sharesFall() {
        VillageCinema x = new VillageCinema();
        x.film(0, 500, 0, 45, 0);
        due("no show", x.inWeek(0, 4, 1), NONE);
        x.show(0, 10, 0);
        int[] shares = {NONE, 45, 35, 25, 20};
        for (int week = 0; week < 5; week++) {
            due("share in week " + week, x.inWeek(0, week, 1), shares[week]);
        }
        x.show(0, 30, 1);
        due("the first show is the one that counts", x.inWeek(0, 4, 1), 20);
        x.drop(10, 0);
        due("a later first show", x.inWeek(0, 4, 1), 45);
        due("none ahead of it", x.inWeek(0, 3, 1), NONE);
        x.film(0, 500, 0, 20, 0);
        x.show(1, 0, 0);
        due("the least share", x.inWeek(1, 4, 1), 20);
    }

    private static void duesAreRoundedFilmByFilm() {
        VillageCinema x = new VillageCinema();
        x.set(VillageCinema.PRICE, 1);
        x.set(VillageCinema.COST, 0);
        x.film(0, 15, 0, 50, 0);
        x.film(0, 15, 0, 50, 0);
        x.show(0, 0, 0);
        x.show(1, 0, 1);
        // 3 and 6 are taken; 1 and 3 are due.
        due("due in the week", x.week(0, 3), 4);
        x.show(0, 1, 0);
        // Film 0 takes 3 and 2 in one week: 5, and not 1 and 1, are shared.
        due("the takings of a week are shared together", x.inWeek(0, 0, 2), 2);
        x.exchange(1, 0, 8, 0);
        // 3 in the week 0 and 1 (of 9) in the week 1, with 40 hundredths.
        due("week by week", x.of(0, 8), 1);
    }

    private static void promise9At() {
        VillageCinema x = new VillageCinema();
        x.film(0, 500, 0, 50, 0);
        x.film(1, 100, 0, 50, 0);
        x.show(1, 4, 0);
        x.show(0, 4, 1);
        x.show(1, 34, 1);
        int[][] want = {{1, 20, 120, 80}, {0, 80, 480, 420}};
        for (int part = 0; part < 2; part++) {
            for (int what = 0; what < 4; what++) {
                due("at(4, " + part + ", " + what + ")", x.at(4, part, what), want[part][what]);
            }
        }
        // 80, 60, 45, 34, 26.
        due("the last place", x.at(34, 1, 1), 10);
        due("the last place's people left", x.at(34, 1, 3), 16);
        due("no film", x.at(5, 0, 0), NONE);
        due("no people", x.at(5, 0, 1), 0);
        due("no takings", x.at(5, 0, 2), 0);
        due("nobody left of no film", x.at(5, 0, 3), NONE);
        due("what 4", x.at(4, 0, 4), BAD_VALUE);
        due("what 4 without a show", x.at(5, 0, 4), BAD_VALUE);
        due("day 35", x.at(35, 0, 0), BAD_VALUE);
        due("part 2", x.at(4, 2, 0), BAD_VALUE);
        for (int out : OUT) {
            due("day", x.at(out, 0, 0), BAD_VALUE);
            due("part", x.at(4, out, 0), BAD_VALUE);
            due("what", x.at(4, 0, out), BAD_VALUE);
        }
    }

    /** Film 0 has three shows in two weeks, film 1 one show in the week 1. */
    private static VillageCinema twoFilms() {
        VillageCinema x = new VillageCinema();
        x.film(2, 200, 150, 50, 1);
        x.film(1, 300, 0, 40, 5);
        x.show(0, 1, 1);
        x.show(0, 2, 1);
        x.show(0, 8, 0);
        x.show(1, 13, 1);
        return x;
    }

    private static void promise10Of() {
        VillageCinema x = twoFilms();
        // People 80, 48, 10; takings 480 and 288 (due 384), 60 (due 150); left 72, 54, 44, 33, 25, 19; film 1: 225, 145, 109, 82, 62.
        int[] want = {2, 200, 150, 50, 1, 3, 138, 828, 534, 19, 1};
        int[] other = {1, 300, 0, 40, 5, 1, 80, 480, 192, 62, 13};
        for (int what = 0; what < 11; what++) {
            due("of(0, " + what + ")", x.of(0, what), want[what]);
            due("of(1, " + what + ")", x.of(1, what), other[what]);
        }
        due("of(2, 0)", x.of(2, 0), NO_SUCH);
        due("of(2, 11)", x.of(2, 11), NO_SUCH);
        due("of(0, 11)", x.of(0, 11), BAD_VALUE);
        for (int out : OUT) {
            due("film", x.of(out, 0), NO_SUCH);
            due("what", x.of(0, out), BAD_VALUE);
        }
        x.drop(1, 1);
        due("the first day with a show", x.of(0, 10), 2);
        x.show(0, 1, 0);
        due("in the afternoon too", x.of(0, 10), 1);
        x.drop(13, 1);
        x.let(0, 1);
        due("no show, and a rent of 1", x.of(1, 10), NONE);
        x.let(0, 0);
        x.film(0, 100, 0, 50, 0);
        x.show(2, 0, 0);
        due("in the first place", x.of(2, 10), 0);
    }

    private static void promise11InWeek() {
        VillageCinema x = twoFilms();
        int[][] want = {{768, 50, 384, 0}, {60, 40, 150, 126}, {0, 30, 0, 0}, {0, 20, 0, 0}, {0, 20, 0, 0}};
        int[][] other = {{0, NONE, 0, 0}, {480, 40, 192, 0}, {0, 30, 0, 0}, {0, 20, 0, 0}, {0, 20, 0, 0}};
        for (int week = 0; week < 5; week++) {
            for (int what = 0; what < 4; what++) {
                due("inWeek(0, " + week + ", " + what + ")", x.inWeek(0, week, what), want[week][what]);
                due("inWeek(1, " + week + ", " + what + ")", x.inWeek(1, week, what), other[week][what]);
            }
        }
        due("film 2", x.inWeek(2, 5, 4), NO_SUCH);
        due("week 5", x.inWeek(0, 5, 0), BAD_VALUE);
        due("what 4", x.inWeek(0, 0, 4), BAD_VALUE);
        for (int out : OUT) {
            due("film", x.inWeek(out, 0, 0), NO_SUCH);
            due("week", x.inWeek(0, out, 0), BAD_VALUE);
            due("what", x.inWeek(0, 0, out), BAD_VALUE);
        }
        VillageCinema none = new VillageCinema();
        none.set(VillageCinema.AFTERNOON, 1);
        none.film(0, 1, 77, 50, 0);
        none.show(0, 0, 0);
        due("a minimum without people", none.inWeek(0, 0, 2), 77);
        due("all of it as there is a minimum", none.inWeek(0, 0, 3), 77);
        due("a share without people", none.inWeek(0, 0, 1), 50);
        due("a share behind it", none.inWeek(0, 1, 1), 40);
    }

    private static void promise12Week() {
        VillageCinema x = twoFilms();
        x.let(7, 100);
        x.let(6, 40);
        x.let(13, 9);
        x.show(1, 12, 1);
        int[][] want = {{2, 128, 768, 384, 1000000 + 768 - 384 - 60 + 40},
            {2, 90, 540, 342, 1000000 + 540 - 342 - 60 + 109}, {0, 0, 0, 0, 1000000}};
        for (int week = 0; week < 3; week++) {
            for (int what = 0; what < 5; what++) {
                due("week(" + week + ", " + what + ")", x.week(week, what), want[week][what]);
            }
        }
        due("below 0", below0().week(4, 4), 1000000 - 24);
        due("week 5", x.week(5, 0), BAD_VALUE);
        due("what 5", x.week(0, 5), BAD_VALUE);
        for (int out : OUT) {
            due("week", x.week(out, 0), BAD_VALUE);
            due("what", x.week(0, out), BAD_VALUE);
        }
    }

    private static VillageCinema below0() {
        VillageCinema x = new VillageCinema();
        x.film(0, 5, 0, 20, 28);
        // 2 people, 12 taken, 2 due, 30 is the cost; then one more film without people.
        x.show(0, 34, 1);
        x.film(0, 1, 4, 20, 28);
        x.set(VillageCinema.COST, 15);
        x.show(1, 28, 0);
        return x;
    }

    private static void promise13Distributor() {
        VillageCinema x = twoFilms();
        x.film(2, 100, 500, 20, 0);
        x.show(2, 34, 0);
        int[][] want = {{0, 0, 0}, {1, 1, 192}, {2, 4, 1034}, {0, 0, 0}};
        for (int distributor = 0; distributor < 4; distributor++) {
            for (int what = 0; what < 3; what++) {
                due("distributor(" + distributor + ", " + what + ")", x.distributor(distributor, what),
                    want[distributor][what]);
            }
        }
        due("distributor 4", x.distributor(4, 0), BAD_VALUE);
        due("what 3", x.distributor(0, 3), BAD_VALUE);
        for (int out : OUT) {
            due("distributor", x.distributor(out, 0), BAD_VALUE);
            due("what", x.distributor(0, out), BAD_VALUE);
        }
    }

    private static void promise14Rent() {
        VillageCinema x = new VillageCinema();
        x.let(0, 1);
        x.let(34, 999);
        due("rent(0)", x.rent(0), 1);
        due("rent(1)", x.rent(1), 0);
        due("rent(34)", x.rent(34), 999);
        due("rent(35)", x.rent(35), BAD_VALUE);
        due("the rents of the first and the last day", x.count(6), 1000);
        due("what is left of them", x.count(5), 1001000);
        due("of the first week", x.week(0, 4), 1000001);
        due("of the last week", x.week(4, 4), 1000999);
        for (int out : OUT) {
            due("rent", x.rent(out), BAD_VALUE);
        }
    }

    private static void promise15Count() {
        VillageCinema x = twoFilms();
        x.let(20, 11);
        x.let(21, 22);
        x.put(Checks.packed("0a1"));
        int left = 1000000 + 1308 - 726 - 120 + 33;
        int[] want = {2, 4, 218, 1308, 726, left, 33, 2, 80, 6, 30, 40, 20, 3, 6};
        for (int what = 0; what < want.length; what++) {
            due("count(" + what + ")", x.count(what), want[what]);
        }
        x.set(VillageCinema.SEATS, 48);
        due("seats for those who come", x.count(7), 3);
        x.set(VillageCinema.SEATS, 81);
        due("more seats", x.count(7), 1);
        due("below 0", below0().count(5), 1000000 - 24);
        due("count(15)", x.count(15), BAD_VALUE);
        for (int out : OUT) {
            due("count", x.count(out), BAD_VALUE);
        }
    }

    private static void nothingChanges() {
        VillageCinema x = twoFilms();
        String before = Checks.stateOf(twoFilms());
        x.ifShown(1, 7, 0);
        x.bestFilm(8, 0, 1);
        x.worstShow(2);
        x.priceFor(8, 0, 100);
        x.week(0, 4);
        x.distributor(1, 2);
        CHECKS.isTrue("nothing is changed by questions", before.equals(Checks.stateOf(x)));
        due("nor recorded", x.count(14), 6);
    }
}
