/** Promises 16 to 19: ifShown(), bestFilm(), worstShow() and priceFor(). */
public final class WhatIfTest {
    private static final int NO_SUCH = -1, BAD_VALUE = -2, NOT_POSSIBLE = -5, NONE = -6;
    private static final int[] OUT = {-1, -6, Integer.MIN_VALUE, Integer.MAX_VALUE};
    private static final Checks CHECKS = new Checks("WhatIfTest");

    private WhatIfTest() {
    }

    public static void main(String[] arguments) {
        promise16IfShown();
        promise16IfShownRefused();
        promise17BestFilm();
        promise17BestFilmRefused();
        promise18WorstShow();
        promise18OfSeveralTheFirst();
        promise19PriceFor();
        whatIfTellsWhatComesThen();
        CHECKS.end();
    }

    private static void due(String call, long got, long want) {
        CHECKS.due(call, got, want);
    }

    private static void promise16IfShown() {
        VillageCinema x = new VillageCinema();
        x.film(0, 100, 0, 50, 0);
        x.film(1, 100, 400, 50, 0);
        due("into an empty place", x.ifShown(0, 0, 1), 1000000 + 240 - 120 - 30);
        due("with a minimum", x.ifShown(1, 0, 1), 1000000 + 240 - 400 - 30);
        x.show(1, 0, 1);
        due("in place of another", x.ifShown(0, 0, 1), 1000000 + 240 - 120 - 30 + 190);
        due("in place of itself", x.ifShown(1, 0, 1), 1000000);
        due("the same film once more", x.ifShown(1, 1, 1), 1000000 + 24 * 6 - 30);
        // Ahead of the other one in an earlier week: its share falls by then, and so do its people.
        x.show(0, 7, 1);
        due("30 people now", x.at(7, 1, 1), 30);
        due("ahead in an earlier week", x.ifShown(0, 6, 1), 1000000 + 240 - 120 - 30 + (108 - 43) - (180 - 90));
    }

    private static void promise16IfShownRefused() {
        VillageCinema x = new VillageCinema();
        x.film(0, 100, 0, 50, 3);
        x.let(9, 10);
        due("film 1 before a bad day", x.ifShown(1, 35, 2), NO_SUCH);
        due("day 35", x.ifShown(0, 35, 0), BAD_VALUE);
        due("part 2 of a day that is let", x.ifShown(0, 9, 2), BAD_VALUE);
        due("a day that is let", x.ifShown(0, 9, 0), NOT_POSSIBLE);
        due("ahead of the first day", x.ifShown(0, 2, 0), NOT_POSSIBLE);
        due("on the first day", x.ifShown(0, 3, 0), 1000000 + 120 - 60 - 30);
        for (int out : OUT) {
            due("film", x.ifShown(out, 3, 0), NO_SUCH);
            due("day", x.ifShown(0, out, 0), BAD_VALUE);
            due("part", x.ifShown(0, 3, out), BAD_VALUE);
        }
    }

    private static void promise17BestFilm() {
        VillageCinema x = new VillageCinema();
        x.film(0, 50, 0, 50, 0);
        x.film(1, 100, 0, 50, 0);
        x.film(2, 100, 0, 50, 0);
        x.film(3, 900, 0, 20, 10);
        due("of two the lower one", x.bestFilm(9, 1, 0), 1);
        due("75 people are left, 30 come", x.bestFilm(9, 1, 1), 1000000 + 180 - 90 - 30);
        due("from its first day on", x.bestFilm(10, 1, 0), 3);
        due("80 people", x.bestFilm(10, 1, 1), 1000000 + 480 - 96 - 30);
        x.show(3, 10, 1);
        due("the one that is there", x.bestFilm(10, 1, 0), 3);
        due("nothing more", x.bestFilm(10, 1, 1), 1000000);
        x.show(1, 9, 1);
        due("the one that is there is the lowest", x.bestFilm(9, 1, 0), 1);
        x.show(2, 9, 1);
        due("the lowest, not the one that is there", x.bestFilm(9, 1, 0), 1);
        due("with nothing more", x.bestFilm(9, 1, 1), 1000000);
        VillageCinema poor = new VillageCinema();
        poor.film(0, 1, 500, 20, 0);
        poor.film(0, 1, 300, 20, 0);
        due("the least loss", poor.bestFilm(0, 0, 0), 1);
        due("a loss", poor.bestFilm(0, 0, 1), 1000000 - 330);
        poor.film(0, 1, 300, 20, 1);
        due("not the one that can't be shown yet", poor.bestFilm(0, 0, 0), 1);
        VillageCinema rich = new VillageCinema();
        rich.film(0, 200, 0, 20, 0);
        rich.film(0, 100, 0, 20, 0);
        due("the first film", rich.bestFilm(0, 1, 0), 0);
        due("its gain", rich.bestFilm(0, 1, 1), 1000000 + 480 - 96 - 30);
    }

    private static void promise17BestFilmRefused() {
        VillageCinema x = new VillageCinema();
        due("no films", x.bestFilm(0, 0, 0), NONE);
        x.let(9, 10);
        due("a day that is let, without films", x.bestFilm(9, 0, 0), NOT_POSSIBLE);
        x.film(0, 100, 0, 50, 3);
        due("ahead of the first day", x.bestFilm(2, 1, 0), NONE);
        due("ahead of the first day", x.bestFilm(2, 1, 1), NONE);
        due("a day that is let", x.bestFilm(9, 1, 1), NOT_POSSIBLE);
        due("what 2 of a day that is let", x.bestFilm(9, 1, 2), BAD_VALUE);
        due("day 35", x.bestFilm(35, 0, 0), BAD_VALUE);
        due("part 2", x.bestFilm(0, 2, 0), BAD_VALUE);
        for (int out : OUT) {
            due("day", x.bestFilm(out, 0, 0), BAD_VALUE);
            due("part", x.bestFilm(3, out, 0), BAD_VALUE);
            due("what", x.bestFilm(3, 0, out), BAD_VALUE);
        }
    }

    private static void dueWorst(VillageCinema x, int day, int part, int more) {
        due("worstShow(0)", x.worstShow(0), day);
        due("worstShow(1)", x.worstShow(1), part);
        due("worstShow(2)", x.worstShow(2), more);
    }

    private static void promise18WorstShow() {
        VillageCinema x = new VillageCinema();
        for (int what = 0; what < 3; what++) {
            due("no shows", x.worstShow(what), NONE);
        }
        due("what 3", x.worstShow(3), BAD_VALUE);
        for (int out : OUT) {
            due("what", x.worstShow(out), BAD_VALUE);
        }
        x.film(0, 100, 0, 50, 0);
        x.film(1, 100, 300, 20, 0);
        x.show(0, 3, 1);
        // 40 people bring 240, 120 and 30 go.
        dueWorst(x, 3, 1, 1000000 - 90);
        x.show(1, 20, 1);
        // 57 people are left of it, 22 come and bring 132, 300 and 30 go.
        dueWorst(x, 20, 1, 1000000 + 198);
        x.show(1, 20, 0);
        // 11 come in the afternoon, 18 of 46 in the evening; the minimum is due with one of them, too.
        dueWorst(x, 20, 0, 1000000 - (29 - 22) * 6 + 30);
        x.drop(20, 1);
        dueWorst(x, 20, 0, 1000000 + 300 + 30 - 66);
    }

    private static void promise18OfSeveralTheFirst() {
        VillageCinema poor = new VillageCinema();
        poor.film(0, 1, 0, 20, 0);
        poor.show(0, 0, 0);
        poor.show(0, 0, 1);
        dueWorst(poor, 0, 0, 1000030);
        poor.drop(0, 0);
        dueWorst(poor, 0, 1, 1000030);
        VillageCinema x = new VillageCinema();
        x.film(0, 100, 0, 50, 0);
        x.film(1, 100, 0, 50, 0);
        x.show(1, 34, 1);
        x.show(0, 34, 0);
        x.set(VillageCinema.AFTERNOON, 40);
        dueWorst(x, 34, 0, 1000000 - 13 * 6 + 39 + 30);
        x.exchange(34, 0, 33, 1);
        dueWorst(x, 33, 1, 1000000 - 13 * 6 + 39 + 30);
    }

    private static void promise19PriceFor() {
        VillageCinema x = new VillageCinema();
        x.film(0, 100, 0, 50, 0);
        x.film(0, 1, 0, 50, 0);
        x.show(0, 0, 1);
        x.show(1, 0, 0);
        due("no takings", x.priceFor(0, 1, 0), BAD_VALUE);
        due("too great takings", x.priceFor(0, 1, 5001), BAD_VALUE);
        due("no show and bad takings", x.priceFor(1, 1, 0), BAD_VALUE);
        due("no show", x.priceFor(1, 1, 1), NOT_POSSIBLE);
        due("day 35", x.priceFor(35, 1, 1), BAD_VALUE);
        due("part 2", x.priceFor(0, 2, 1), BAD_VALUE);
        for (int out : OUT) {
            due("day", x.priceFor(out, 1, 1), BAD_VALUE);
            due("part", x.priceFor(0, out, 1), BAD_VALUE);
            due("takings", x.priceFor(0, 1, out), BAD_VALUE);
        }
        due("1 of 40 people", x.priceFor(0, 1, 1), 1);
        due("just one", x.priceFor(0, 1, 40), 1);
        due("a bit more", x.priceFor(0, 1, 41), 2);
        due("just twenty", x.priceFor(0, 1, 800), 20);
        due("more than twenty", x.priceFor(0, 1, 801), NONE);
        due("the greatest takings", x.priceFor(0, 1, 5000), NONE);
        due("nobody comes", x.priceFor(0, 0, 1), NONE);
        x.set(VillageCinema.PRICE, 20);
        due("whatever the price is now", x.priceFor(0, 1, 41), 2);
        VillageCinema full = new VillageCinema();
        full.set(VillageCinema.SEATS, 300);
        full.film(0, 999, 0, 50, 0);
        full.show(0, 0, 1);
        due("300 people", full.priceFor(0, 1, 5000), 17);
    }

    private static void whatIfTellsWhatComesThen() {
        VillageCinema x = new VillageCinema();
        x.film(0, 300, 120, 55, 0);
        x.film(1, 250, 60, 65, 9);
        x.show(0, 2, 1);
        x.show(0, 9, 0);
        x.show(1, 9, 1);
        int before = x.count(5);
        int told = x.ifShown(1, 9, 0);
        x.show(1, 9, 0);
        due("ifShown tells the difference", told, 1000000 + x.count(5) - before);
        before = x.count(5);
        told = x.worstShow(2);
        x.drop(x.worstShow(0), x.worstShow(1));
        due("worstShow tells the difference", told, 1000000 + x.count(5) - before);
        before = x.count(5);
        told = x.bestFilm(10, 0, 1);
        x.show(x.bestFilm(10, 0, 0), 10, 0);
        due("bestFilm tells the difference", told, 1000000 + x.count(5) - before);
        before = x.count(5);
        due("exchange tells the difference", x.exchange(2, 1, 30, 0), 1000000 + x.count(5) - before);
    }
}
