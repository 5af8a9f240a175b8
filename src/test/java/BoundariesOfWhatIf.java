/** The boundaries that promises 16 to 19 name: ifShown(), bestFilm(), worstShow() and priceFor(). */
final class BoundariesOfWhatIf extends Boundaries {
    BoundariesOfWhatIf(Checks checks) {
        super(checks);
    }

    @Override
    void run() {
        sentence(16, "errors as for show(): NO_SUCH", this::ifShownNoSuchFilm);
        sentence(16, "errors as for show(): BAD_VALUE", this::ifShownOutOfRange);
        sentence(16, "errors as for show(): NOT_POSSIBLE", this::ifShownNotPossible);
        sentence(16, "how much, and 1000000: also below 0", this::ifShownGain);
        sentence(16, "in place of what is there", this::ifShownInPlace);
        sentence(16, "also what later shows of the film lose", this::ifShownChangesLaterShows);
        sentence(17, "BAD_VALUE if an argument is out of range", this::bestFilmOutOfRange);
        sentence(17, "NOT_POSSIBLE if the day is let", this::bestFilmOnDayLet);
        sentence(17, "NONE if no film can be shown", this::bestFilmNone);
        sentence(17, "of several the lowest one", this::bestFilmLowest);
        sentence(17, "the most would be left, also if it is less than now", this::bestFilmOfLosses);
        sentence(17, "in place of what is there", this::bestFilmInPlace);
        sentence(18, "BAD_VALUE if what is out of range", this::worstShowOutOfRange);
        sentence(18, "NONE if there are no shows", this::worstShowNone);
        sentence(18, "of several the first one", this::worstShowFirst);
        sentence(18, "the most would be left, also if it is less than now", this::worstShowOfGains);
        sentence(18, "in each place", this::worstShowEverywhere);
        sentence(19, "BAD_VALUE if an argument is out of range", this::priceForOutOfRange);
        sentence(19, "NOT_POSSIBLE if there is no show", this::priceForNoShow);
        sentence(19, "NONE if there is none", this::priceForNone);
        sentence(19, "the least one of 1 to 20 with at least so great takings", this::priceForLeast);
        sentence(19, "takings: 1 to 5000", this::priceForEnds);
        sentence(19, "the people stay, whatever the price is", this::priceForWhateverPrice);
    }

    private void ifShownNoSuchFilm() {
        VillageCinema x = new VillageCinema();
        for (int films = 0; films <= 8; films++) {
            due("ifShown(" + films + ", 0, 0)", x.ifShown(films, 0, 0), NO_SUCH);
            for (int film : beyond(0, 7)) {
                due("ifShown(" + film + ", 0, 0)", x.ifShown(film, 0, 0), NO_SUCH);
            }
            if (films > 0) {
                due("the last film", x.ifShown(films - 1, 0, 0), MILLION + 120 - 60 - 30);
            }
            x.film(0, 100, 0, 50, 0);
        }
    }

    private void ifShownOutOfRange() {
        VillageCinema x = hall(100);
        for (int day : beyond(0, 34)) {
            due("ifShown(0, " + day + ", 0)", x.ifShown(0, day, 0), BAD_VALUE);
        }
        for (int part : beyond(0, 1)) {
            due("ifShown(0, 7, " + part + ")", x.ifShown(0, 7, part), BAD_VALUE);
        }
    }

    private void ifShownNotPossible() {
        for (int first = 1; first < 35; first++) {
            VillageCinema x = new VillageCinema();
            x.film(0, 100, 0, 50, first);
            due("the evening before day " + first, x.ifShown(0, first - 1, 1), NOT_POSSIBLE);
            due("the afternoon of day " + first, x.ifShown(0, first, 0), MILLION + 120 - 60 - 30);
            x.let(first, 1);
            due("a day that is let", x.ifShown(0, first, 0), NOT_POSSIBLE);
            due("its evening", x.ifShown(0, first, 1), NOT_POSSIBLE);
        }
    }

    private void ifShownGain() {
        VillageCinema x = new VillageCinema();
        x.film(0, 5, 0, 50, 0);
        x.film(0, 5, 500, 50, 0);
        x.set(VillageCinema.COST, 0);
        // One comes in the afternoon, two in the evening: 6 and 12 are taken.
        due("above 0", x.ifShown(0, 0, 1), MILLION + 6);
        x.set(VillageCinema.COST, 5);
        due("just above 0", x.ifShown(0, 0, 1), MILLION + 1);
        x.set(VillageCinema.COST, 6);
        due("just 0", x.ifShown(0, 0, 1), MILLION);
        x.set(VillageCinema.COST, 7);
        due("just below 0", x.ifShown(0, 0, 1), MILLION - 1);
        x.set(VillageCinema.COST, 200);
        due("below 0", x.ifShown(1, 0, 0), MILLION + 6 - 500 - 200);
        due("nothing is there", x.at(0, 0, 0), NONE);
    }

    private void ifShownInPlace() {
        VillageCinema x = hall(100, 200);
        x.show(0, 0, 1);
        // Film 0 brings 90, film 1 480 - 240 - 30 = 210.
        due("another film", x.ifShown(1, 0, 1), MILLION + 120);
        due("the film that is there", x.ifShown(0, 0, 1), MILLION);
        due("it is there still", x.at(0, 1, 0), 0);
        x.show(1, 0, 1);
        due("a worse film", x.ifShown(0, 0, 1), MILLION - 120);
        due("the first place", x.ifShown(0, 0, 0), MILLION + 30);
        due("the last place", x.ifShown(0, 34, 1), MILLION + 13 * 6 - 39 - 30);
    }

    private void ifShownChangesLaterShows() {
        VillageCinema x = hall(100);
        x.show(0, 7, 1);
        // 30 of 75 bring 180, half is due; with a show in week 0 there are 18 of 45, and 40 hundredths are due.
        due("a week ahead", x.ifShown(0, 6, 1), MILLION + (240 - 120 - 30) + (108 - 43) - (180 - 90));
        due("a week behind", x.ifShown(0, 14, 1), MILLION + 78 - 31 - 30);
    }

    private void bestFilmOutOfRange() {
        VillageCinema x = hall(100);
        for (int what = 0; what < 2; what++) {
            for (int day : beyond(0, 34)) {
                due("bestFilm(" + day + ", 0, " + what + ")", x.bestFilm(day, 0, what), BAD_VALUE);
            }
            for (int part : beyond(0, 1)) {
                due("bestFilm(7, " + part + ", " + what + ")", x.bestFilm(7, part, what), BAD_VALUE);
            }
        }
        for (int what : beyond(0, 1)) {
            due("bestFilm(7, 0, " + what + ")", x.bestFilm(7, 0, what), BAD_VALUE);
            due("without films", new VillageCinema().bestFilm(7, 0, what), BAD_VALUE);
        }
    }

    private void bestFilmOnDayLet() {
        for (int films = 0; films < 2; films++) {
            VillageCinema x = films == 0 ? new VillageCinema() : hall(100);
            for (int day : new int[] {0, 34}) {
                x.let(day, 1);
                for (int place = 0; place < 4; place++) {
                    due("day " + day + ", " + films + " films", x.bestFilm(day, place % 2, place / 2), NOT_POSSIBLE);
                }
            }
        }
    }

    private void bestFilmNone() {
        VillageCinema x = new VillageCinema();
        due("no films", x.bestFilm(0, 0, 0), NONE);
        due("no films: how much", x.bestFilm(0, 0, 1), NONE);
        x.film(0, 100, 0, 50, 34);
        x.film(0, 100, 0, 50, 20);
        due("ahead of each first day", x.bestFilm(19, 1, 0), NONE);
        due("ahead of each first day: how much", x.bestFilm(19, 1, 1), NONE);
        due("on a first day", x.bestFilm(20, 0, 0), 1);
        due("ahead of the other one", x.bestFilm(33, 1, 0), 1);
        due("on both", x.bestFilm(34, 0, 0), 0);
    }

    private void bestFilmLowest() {
        VillageCinema x = hall(100, 100, 100, 100, 100, 100, 100, 100);
        due("all are the same", x.bestFilm(0, 1, 0), 0);
        x.show(0, 1, 1);
        due("all but one", x.bestFilm(0, 1, 0), 1);
        VillageCinema last = hall(100, 100, 100, 100, 100, 100, 100, 101);
        due("one more person, but no more who come", last.bestFilm(0, 1, 0), 0);
        VillageCinema eighth = hall(100, 100, 100, 100, 100, 100, 100, 103);
        due("the eighth", eighth.bestFilm(0, 1, 0), 7);
        due("how much", eighth.bestFilm(0, 1, 1), MILLION + 41 * 6 - 123 - 30);
    }

    private void bestFilmOfLosses() {
        VillageCinema x = new VillageCinema();
        x.film(0, 1, 300, 50, 0);
        x.film(0, 1, 100, 50, 0);
        x.film(0, 1, 200, 50, 0);
        due("the least loss", x.bestFilm(0, 0, 0), 1);
        due("how much", x.bestFilm(0, 0, 1), MILLION - 130);
        VillageCinema one = new VillageCinema();
        one.film(0, 1, 500, 50, 0);
        due("the only film", one.bestFilm(34, 1, 0), 0);
        due("its loss", one.bestFilm(34, 1, 1), MILLION - 530);
        VillageCinema none = hall(1);
        none.set(VillageCinema.COST, 0);
        due("neither more nor less", none.bestFilm(0, 0, 1), MILLION);
        due("is better than none", none.bestFilm(0, 0, 0), 0);
    }

    private void bestFilmInPlace() {
        VillageCinema x = hall(100, 200);
        x.show(1, 0, 1);
        due("the one that is there", x.bestFilm(0, 1, 0), 1);
        due("is no more", x.bestFilm(0, 1, 1), MILLION);
        x.show(0, 0, 1);
        due("a better one", x.bestFilm(0, 1, 0), 1);
        due("in place of it", x.bestFilm(0, 1, 1), MILLION + 120);
        due("which is there still", x.at(0, 1, 0), 0);
    }

    private void worstShowOutOfRange() {
        for (int what : beyond(0, 2)) {
            due("worstShow(" + what + ")", allShown().worstShow(what), BAD_VALUE);
            due("worstShow(" + what + ") without shows", new VillageCinema().worstShow(what), BAD_VALUE);
        }
    }

    private void worstShowNone() {
        VillageCinema x = hall(100);
        for (int what = 0; what < 3; what++) {
            due("never one", x.worstShow(what), NONE);
        }
        x.show(0, 20, 1);
        x.drop(20, 1);
        for (int what = 0; what < 3; what++) {
            due("dropped", x.worstShow(what), NONE);
        }
    }

    private void worst(VillageCinema x, int day, int part, int more) {
        due("worstShow(0)", x.worstShow(0), day);
        due("worstShow(1)", x.worstShow(1), part);
        due("worstShow(2)", x.worstShow(2), more);
    }

    private void worstShowFirst() {
        VillageCinema x = hall(1, 1);
        x.show(1, 34, 1);
        worst(x, 34, 1, MILLION + 30);
        x.show(0, 34, 0);
        worst(x, 34, 0, MILLION + 30);
        x.show(0, 20, 1);
        worst(x, 20, 1, MILLION + 30);
        x.show(1, 20, 0);
        worst(x, 20, 0, MILLION + 30);
        x.show(1, 0, 1);
        worst(x, 0, 1, MILLION + 30);
        x.show(0, 0, 0);
        worst(x, 0, 0, MILLION + 30);
    }

    private void worstShowOfGains() {
        VillageCinema x = hall(200, 100, 200);
        x.show(0, 0, 1);
        worst(x, 0, 1, MILLION - 210);
        x.show(1, 5, 1);
        worst(x, 5, 1, MILLION - 90);
        x.show(2, 6, 1);
        worst(x, 5, 1, MILLION - 90);
        x.set(VillageCinema.COST, 120);
        worst(x, 5, 1, MILLION);
        x.set(VillageCinema.COST, 121);
        worst(x, 5, 1, MILLION + 1);
    }

    private void worstShowEverywhere() {
        for (int place = 0; place < 70; place++) {
            VillageCinema x = new VillageCinema();
            x.set(VillageCinema.COST, 0);
            x.film(0, 1, 500, 50, 0);
            x.show(0, place / 2, place % 2);
            worst(x, place / 2, place % 2, MILLION + 500);
        }
    }

    private void priceForOutOfRange() {
        VillageCinema x = allShown();
        for (int day : beyond(0, 34)) {
            due("priceFor(" + day + ", 0, 1)", x.priceFor(day, 0, 1), BAD_VALUE);
        }
        for (int part : beyond(0, 1)) {
            due("priceFor(7, " + part + ", 1)", x.priceFor(7, part, 1), BAD_VALUE);
        }
        for (int takings : beyond(1, 5000)) {
            due("priceFor(7, 0, " + takings + ")", x.priceFor(7, 0, takings), BAD_VALUE);
            due("without a show", new VillageCinema().priceFor(7, 0, takings), BAD_VALUE);
        }
    }

    private void priceForNoShow() {
        VillageCinema x = hall(100);
        due("no shows", x.priceFor(0, 0, 1), NOT_POSSIBLE);
        x.show(0, 0, 1);
        due("the other part", x.priceFor(0, 0, 5000), NOT_POSSIBLE);
        due("the show", x.priceFor(0, 1, 1), 1);
        x.let(0, 10);
        due("a day that is let", x.priceFor(0, 1, 1), NOT_POSSIBLE);
    }

    private void priceForNone() {
        VillageCinema x = hall(100, 1);
        x.show(0, 0, 1);
        x.show(1, 0, 0);
        // 40 people, and nobody.
        due("just 20", x.priceFor(0, 1, 800), 20);
        due("just above 20", x.priceFor(0, 1, 801), NONE);
        due("far above 20", x.priceFor(0, 1, 5000), NONE);
        due("nobody comes", x.priceFor(0, 0, 1), NONE);
        due("nobody comes, for the most", x.priceFor(0, 0, 5000), NONE);
    }

    private void priceForLeast() {
        VillageCinema x = hall(100);
        x.show(0, 0, 1);
        for (int price = 1; price <= 20; price++) {
            due("just " + price, x.priceFor(0, 1, 40 * price), price);
            due("just above " + (price - 1), x.priceFor(0, 1, 40 * (price - 1) + 1), price);
        }
    }

    private void priceForEnds() {
        VillageCinema x = allCome(999, 0);
        x.show(0, 0, 1);
        // 300 people.
        due("the least takings", x.priceFor(0, 1, 1), 1);
        due("the greatest takings", x.priceFor(0, 1, 5000), 17);
        x.set(VillageCinema.SEATS, 250);
        due("the greatest takings with price 20", x.priceFor(0, 1, 5000), 20);
        x.set(VillageCinema.SEATS, 249);
        due("more than price 20", x.priceFor(0, 1, 5000), NONE);
    }

    private void priceForWhateverPrice() {
        for (int price : new int[] {1, 6, 20}) {
            VillageCinema x = hall(100);
            x.set(VillageCinema.PRICE, price);
            x.show(0, 0, 1);
            due("with price " + price, x.priceFor(0, 1, 81), 3);
            due("the price stays", x.count(9), price);
        }
    }
}
