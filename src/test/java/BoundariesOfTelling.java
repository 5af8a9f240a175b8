/** The boundaries that promises 9 to 15 name, and the terms on people and money that they tell of. */
final class BoundariesOfTelling extends Boundaries {
    BoundariesOfTelling(Checks checks) {
        super(checks);
    }

    @Override
    void run() {
        runOfPeople();
        runOfMoney();
        sentence(9, "BAD_VALUE if an argument is out of range", this::atOutOfRange);
        sentence(9, "NONE, 0, 0 and NONE without a show", this::atWithoutShow);
        sentence(9, "on a day that is let there are no shows", this::atOnDayLet);
        sentence(10, "NO_SUCH if there is no such film", this::ofNoSuchFilm);
        sentence(10, "BAD_VALUE if what is out of range", this::ofOutOfRange);
        sentence(10, "a film without a show", this::ofFilmWithoutShow);
        sentence(10, "the first day on which it has a show (NONE)", this::ofFirstDayShown);
        sentence(10, "a show in each place", this::ofFilmShownEverywhere);
        sentence(11, "NO_SUCH if there is no such film", this::inWeekNoSuchFilm);
        sentence(11, "BAD_VALUE if another argument is out of range", this::inWeekOutOfRange);
        sentence(12, "BAD_VALUE if an argument is out of range", this::weekOutOfRange);
        sentence(12, "the week of a day is the day divided by 7", this::weekOfEachDay);
        sentence(12, "a week without shows and rents", this::weekWithoutShows);
        sentence(12, "what is left of it, and 1000000 (with its rents)", this::weekLeft);
        sentence(13, "BAD_VALUE if an argument is out of range", this::distributorOutOfRange);
        sentence(13, "a distributor without films, and one without shows", this::distributorWithoutShows);
        sentence(14, "BAD_VALUE if day is out of range", this::rentOutOfRange);
        sentence(14, "the rent (0: it is not let)", this::rentOfEachDay);
        sentence(15, "BAD_VALUE if what is out of range", this::countOutOfRange);
        sentence(15, "what is left, and 1000000, also below 0", this::countLeft);
        sentence(15, "shows at which all seats are taken", this::countFullShows);
        sentence(15, "the length of the pad, 0 to 60", this::countPad);
        sentence(15, "how many changes can be undone, 0 to 6", this::countHistory);
        sentence(15, "all 70 shows", this::countAllShown);
    }

    private void runOfPeople() {
        sentence(9, "EVENING or AFTERNOON hundredths, 1 to 100, rounded down", this::peopleHundredths);
        sentence(9, "but no more than SEATS", this::peopleNoMoreThanSeats);
        sentence(9, "on a day the afternoon first", this::peopleAfternoonFirst);
        sentence(9, "in the order of the days", this::peopleInOrderOfDays);
        sentence(9, "they are not left any more: until there is nobody", this::peopleUntilNobody);
        sentence(9, "people of one film are not those of another", this::peopleFilmByFilm);
        sentence(9, "a fourth of them, rounded down, goes", this::quarterRoundedDown);
        sentence(9, "with the beginning of each week", this::quarterAtBeginningOfWeek);
        sentence(9, "behind the week of its first day", this::quarterBehindFirstWeek);
        sentence(10, "the people left behind the week 4", this::quarterNotBehindWeek4);
    }

    private void runOfMoney() {
        sentence(9, "people times PRICE, 1 to 20", this::takingsAtEachPrice);
        sentence(11, "the greater one of its minimum and of the share", this::dueTheGreater);
        sentence(11, "for each week in which it has a show", this::dueOnlyInWeeksWithShow);
        sentence(11, "the minimum also if nobody comes", this::dueIfNobodyComes);
        sentence(11, "divided by 100, rounded down", this::dueRoundedDown);
        sentence(11, "the takings of the film in this week, together", this::dueOfWeekTogether);
        sentence(11, "in the first week in which it has a show its share", this::shareInFirstWeek);
        sentence(11, "a show to which nobody comes is a show, too", this::shareIfNobodyComes);
        sentence(11, "in each later week 10 less, but at least 20", this::shareFalls);
        sentence(11, "whether it has shows in those between or not", this::shareFallsWithoutShows);
        sentence(12, "less COST for each show, 0 to 200", this::costOfEachShow);
    }

    private void peopleHundredths() {
        int[][] cases = {{1, 99, 0}, {1, 100, 1}, {1, 199, 1}, {1, 200, 2}, {40, 2, 0}, {40, 3, 1}, {40, 4, 1},
            {99, 100, 99}, {99, 99, 98}, {99, 1, 0}, {100, 1, 1}, {100, 80, 80}, {33, 100, 33}, {33, 3, 0}};
        for (int[] c : cases) {
            for (int part = 0; part < 2; part++) {
                VillageCinema x = hall(c[1]);
                x.set(VillageCinema.SEATS, 300);
                x.set(part == 0 ? VillageCinema.AFTERNOON : VillageCinema.EVENING, c[0]);
                x.set(part == 1 ? VillageCinema.AFTERNOON : VillageCinema.EVENING, 50);
                x.show(0, 0, part);
                due(c[0] + " hundredths of " + c[1] + " in part " + part, x.at(0, part, 1), c[2]);
                due("left of " + c[1] + " in part " + part, x.at(0, part, 3), c[1] - c[2]);
            }
        }
    }

    private void peopleNoMoreThanSeats() {
        int[][] cases = {{10, 9, 9}, {10, 10, 10}, {10, 11, 10}, {10, 999, 10}, {80, 79, 79}, {80, 80, 80},
            {80, 81, 80}, {300, 299, 299}, {300, 300, 300}, {300, 301, 300}, {300, 999, 300}};
        for (int[] c : cases) {
            VillageCinema x = allCome(c[1], 0);
            x.set(VillageCinema.SEATS, c[0]);
            x.show(0, 0, 1);
            due(c[1] + " people for " + c[0] + " seats", x.at(0, 1, 1), c[2]);
            due("those without a seat are left", x.at(0, 1, 3), c[1] - c[2]);
        }
    }

    private void peopleAfternoonFirst() {
        VillageCinema x = hall(100);
        x.show(0, 5, 1);
        due("the evening alone", x.at(5, 1, 1), 40);
        x.show(0, 5, 0);
        due("20 of 100 in the afternoon", x.at(5, 0, 1), 20);
        due("80 are left behind the afternoon", x.at(5, 0, 3), 80);
        due("32 of 80 in the evening", x.at(5, 1, 1), 32);
        due("48 are left behind the evening", x.at(5, 1, 3), 48);
    }

    private void peopleInOrderOfDays() {
        VillageCinema x = hall(100);
        x.show(0, 6, 0);
        x.show(0, 5, 1);
        x.show(0, 0, 1);
        due("40 of 100", x.at(0, 1, 1), 40);
        due("24 of 60", x.at(5, 1, 1), 24);
        due("7 of 36", x.at(6, 0, 1), 7);
        due("of(0, 6)", x.of(0, 6), 71);
    }

    private void peopleUntilNobody() {
        VillageCinema x = allCome(50, 0);
        x.show(0, 0, 1);
        x.show(0, 1, 1);
        due("all", x.at(0, 1, 1), 50);
        due("0 are left, not NONE", x.at(0, 1, 3), 0);
        due("nobody", x.at(1, 1, 1), 0);
        due("no takings", x.at(1, 1, 2), 0);
        due("0 are left still", x.at(1, 1, 3), 0);
        due("behind the week 4", x.of(0, 9), 0);
        VillageCinema full = allShown();
        for (int day = 0; day < 35; day++) {
            due("never below 0", Math.min(0, full.at(day, 1, 3)), 0);
        }
    }

    private void peopleFilmByFilm() {
        VillageCinema x = hall(100, 100);
        x.show(0, 0, 0);
        x.show(1, 0, 1);
        x.show(0, 1, 1);
        due("40 of film 1", x.at(0, 1, 1), 40);
        due("32 of 80 of film 0", x.at(1, 1, 1), 32);
    }

    private void quarterRoundedDown() {
        int[] left = {0, 1, 2, 3, 3, 4, 5, 6, 6, 7};
        for (int crowd = 1; crowd <= 9; crowd++) {
            VillageCinema x = allCome(crowd, 0);
            x.show(0, 7, 1);
            due("of " + crowd, x.at(7, 1, 1), left[crowd]);
        }
    }

    private void quarterAtBeginningOfWeek() {
        VillageCinema x = hall(100);
        x.show(0, 6, 1);
        x.show(0, 7, 0);
        due("100 on the last evening of the week", x.at(6, 1, 1), 40);
        due("60 are left of it", x.at(6, 1, 3), 60);
        due("45 on the first afternoon of the next", x.at(7, 0, 1), 9);
        due("36 are left of it", x.at(7, 0, 3), 36);
        for (int week = 0; week < 5; week++) {
            VillageCinema y = allCome(256, 0);
            y.show(0, week * 7 + 6, 1);
            int[] want = {256, 192, 144, 108, 81};
            due("on the last evening of week " + week, y.at(week * 7 + 6, 1, 1), want[week]);
            y.exchange(week * 7 + 6, 1, week * 7, 1);
            due("on the first evening of week " + week, y.at(week * 7, 1, 1), want[week]);
        }
    }

    private void quarterBehindFirstWeek() {
        int[] want = {256, 192, 144, 108, 81};
        for (int first = 0; first < 35; first++) {
            VillageCinema x = allCome(256, first);
            due("quarters with first day " + first, x.of(0, 9), want[4 - first / 7]);
            x.show(0, first, 1);
            due("the whole crowd on day " + first, x.at(first, 1, 1), 256);
            int last = first / 7 * 7 + 6;
            x.exchange(first, 1, last, 1);
            due("the whole crowd on day " + last, x.at(last, 1, 1), 256);
            if (last < 34) {
                x.exchange(last, 1, last + 1, 1);
                due("three quarters on day " + (last + 1), x.at(last + 1, 1, 1), 192);
            }
        }
    }

    private void quarterNotBehindWeek4() {
        VillageCinema x = allCome(256, 28);
        due("a film of the week 4", x.of(0, 9), 256);
        x.show(0, 34, 0);
        due("51 of 256 in the last afternoon", x.of(0, 9), 205);
        due("the same as behind it", x.at(34, 0, 3), 205);
        x.show(0, 34, 1);
        due("nobody behind the last evening", x.of(0, 9), 0);
    }

    private void takingsAtEachPrice() {
        for (int price = 1; price <= 20; price++) {
            VillageCinema x = allCome(300, 0);
            x.set(VillageCinema.PRICE, price);
            x.show(0, 0, 1);
            due("at(0, 1, 2) with price " + price, x.at(0, 1, 2), 300 * price);
            due("of(0, 7) with price " + price, x.of(0, 7), 300 * price);
        }
    }

    /** A hall with a film with this minimum and share; 40 people come to its only show, in week 0. */
    private static VillageCinema fortyCome(int minimum, int share) {
        VillageCinema x = new VillageCinema();
        x.film(0, 100, minimum, share, 0);
        x.show(0, 0, 1);
        return x;
    }

    private void dueTheGreater() {
        // The takings are 240, the share of them is 120.
        int[][] cases = {{0, 120, 0}, {119, 120, 0}, {120, 120, 0}, {121, 121, 1}, {500, 500, 380}};
        for (int[] c : cases) {
            VillageCinema x = fortyCome(c[0], 50);
            due("due with minimum " + c[0], x.inWeek(0, 0, 2), c[1]);
            due("more than the share with minimum " + c[0], x.inWeek(0, 0, 3), c[2]);
            due("of(0, 8)", x.of(0, 8), c[1]);
            due("week(0, 3)", x.week(0, 3), c[1]);
            due("distributor(0, 2)", x.distributor(0, 2), c[1]);
            due("count(4)", x.count(4), c[1]);
        }
    }

    private void dueOnlyInWeeksWithShow() {
        VillageCinema x = fortyCome(500, 50);
        x.show(0, 27, 0);
        int[] want = {500, 0, 0, 500, 0};
        for (int week = 0; week < 5; week++) {
            due("inWeek(0, " + week + ", 2)", x.inWeek(0, week, 2), want[week]);
            due("week(" + week + ", 3)", x.week(week, 3), want[week]);
        }
        x.drop(0, 1);
        due("without its show", x.inWeek(0, 0, 2), 0);
        due("and nothing more than the share", x.inWeek(0, 0, 3), 0);
        due("of(0, 8)", x.of(0, 8), 500);
    }

    private void dueIfNobodyComes() {
        VillageCinema x = new VillageCinema();
        x.film(0, 1, 500, 90, 0);
        x.film(0, 1, 0, 90, 0);
        x.show(0, 0, 0);
        x.show(1, 0, 1);
        due("takings", x.inWeek(0, 0, 0), 0);
        due("the minimum", x.inWeek(0, 0, 2), 500);
        due("all of it", x.inWeek(0, 0, 3), 500);
        due("a minimum of 0", x.inWeek(1, 0, 2), 0);
        due("none of it", x.inWeek(1, 0, 3), 0);
    }

    private void dueRoundedDown() {
        // With a price of 1 the takings are 40.
        int[][] cases = {{20, 8}, {22, 8}, {24, 9}, {25, 10}, {27, 10}, {90, 36}, {89, 35}, {33, 13}};
        for (int[] c : cases) {
            VillageCinema x = fortyCome(0, c[0]);
            x.set(VillageCinema.PRICE, 1);
            due(c[0] + " hundredths of 40", x.inWeek(0, 0, 2), c[1]);
            due("nothing more than the share", x.inWeek(0, 0, 3), 0);
        }
    }

    private void dueOfWeekTogether() {
        VillageCinema x = hall(15);
        x.set(VillageCinema.PRICE, 1);
        x.show(0, 0, 0);
        x.show(0, 1, 0);
        // 3 and 2 are taken.
        due("half of 5", x.inWeek(0, 0, 2), 2);
        x.exchange(0, 0, 6, 1);
        // 3 on day 1, 4 of 12 on day 6.
        due("half of 7", x.inWeek(0, 0, 2), 3);
        x.exchange(6, 1, 7, 0);
        // 3 on day 1; 12 are left, 9 then, 1 of them comes; 40 hundredths of it are none.
        due("half of 3", x.inWeek(0, 0, 2), 1);
        due("40 hundredths of 1", x.inWeek(0, 1, 2), 0);
    }

    private void shareInFirstWeek() {
        for (int day = 0; day < 35; day++) {
            VillageCinema x = hall(100);
            due("without a show", x.inWeek(0, day / 7, 1), NONE);
            x.show(0, day, day % 2);
            for (int week = 0; week < 5; week++) {
                int later = week - day / 7;
                int want = later < 0 ? NONE : new int[] {50, 40, 30, 20, 20}[later];
                due("a show on day " + day + ", week " + week, x.inWeek(0, week, 1), want);
            }
        }
    }

    private void shareIfNobodyComes() {
        VillageCinema x = hall(1);
        x.show(0, 7, 0);
        due("nobody", x.at(7, 0, 1), 0);
        int[] want = {NONE, 50, 40, 30, 20};
        for (int week = 0; week < 5; week++) {
            due("inWeek(0, " + week + ", 1)", x.inWeek(0, week, 1), want[week]);
        }
        x.drop(7, 0);
        due("dropped", x.inWeek(0, 1, 1), NONE);
    }

    private void shareFalls() {
        int[][] shares = {{20, 20, 20, 20, 20}, {21, 20, 20, 20, 20}, {29, 20, 20, 20, 20}, {30, 20, 20, 20, 20},
            {31, 21, 20, 20, 20}, {45, 35, 25, 20, 20}, {59, 49, 39, 29, 20}, {60, 50, 40, 30, 20},
            {61, 51, 41, 31, 21}, {90, 80, 70, 60, 50}};
        for (int[] want : shares) {
            VillageCinema x = new VillageCinema();
            x.film(0, 999, 0, want[0], 0);
            for (int week = 0; week < 5; week++) {
                x.show(0, week * 7, 1);
            }
            for (int week = 0; week < 5; week++) {
                due("share " + want[0] + " in week " + week, x.inWeek(0, week, 1), want[week]);
                due("due in week " + week, x.inWeek(0, week, 2), x.inWeek(0, week, 0) * want[week] / 100);
            }
        }
    }

    private void shareFallsWithoutShows() {
        VillageCinema x = fortyCome(0, 70);
        x.show(0, 34, 1);
        due("three weeks between", x.inWeek(0, 4, 1), 30);
        // 60 are left, then 45, 34, 26, 20: 8 of them bring 48.
        due("due then", x.inWeek(0, 4, 2), 14);
        x.drop(0, 1);
        due("without the first show it is the first", x.inWeek(0, 4, 1), 70);
        due("and there is none ahead of it", x.inWeek(0, 3, 1), NONE);
        x.drop(34, 1);
        due("without a show", x.inWeek(0, 4, 1), NONE);
    }

    private void costOfEachShow() {
        for (int cost : new int[] {0, 1, 200}) {
            VillageCinema x = hall(1, 1);
            x.set(VillageCinema.COST, cost);
            for (int shows = 1; shows <= 7; shows++) {
                x.show(shows % 2, shows - 1, 0);
                due(shows + " shows at " + cost, x.week(0, 4), MILLION - shows * cost);
                due("count(5)", x.count(5), MILLION - shows * cost);
            }
        }
    }

    private void atOutOfRange() {
        VillageCinema x = allShown();
        for (int what = 0; what < 4; what++) {
            for (int day : beyond(0, 34)) {
                due("at(" + day + ", 0, " + what + ")", x.at(day, 0, what), BAD_VALUE);
            }
            for (int part : beyond(0, 1)) {
                due("at(7, " + part + ", " + what + ")", x.at(7, part, what), BAD_VALUE);
            }
        }
        for (int what : beyond(0, 3)) {
            due("at(7, 0, " + what + ")", x.at(7, 0, what), BAD_VALUE);
            due("without a show", new VillageCinema().at(7, 0, what), BAD_VALUE);
        }
    }

    private void atWithoutShow() {
        VillageCinema x = hall(100);
        x.show(0, 0, 0);
        int[] want = {NONE, 0, 0, NONE};
        int[] shown = {0, 20, 120, 80};
        for (int what = 0; what < 4; what++) {
            due("at(0, 1, " + what + ")", x.at(0, 1, what), want[what]);
            due("at(34, 1, " + what + ")", x.at(34, 1, what), want[what]);
            due("at(0, 0, " + what + ")", x.at(0, 0, what), shown[what]);
        }
        x.drop(0, 0);
        for (int what = 0; what < 4; what++) {
            due("dropped, what " + what, x.at(0, 0, what), want[what]);
        }
    }

    private void atOnDayLet() {
        VillageCinema x = hall(100);
        x.show(0, 3, 0);
        x.show(0, 3, 1);
        x.let(3, 1);
        int[] want = {NONE, 0, 0, NONE};
        for (int what = 0; what < 4; what++) {
            due("at(3, 0, " + what + ")", x.at(3, 0, what), want[what]);
            due("at(3, 1, " + what + ")", x.at(3, 1, what), want[what]);
        }
    }

    private void ofNoSuchFilm() {
        for (int films = 0; films <= 8; films++) {
            VillageCinema x = hallOf(films);
            for (int what = 0; what <= 11; what++) {
                due("of(" + films + ", " + what + ")", x.of(films, what), NO_SUCH);
            }
            for (int film : beyond(0, 7)) {
                due("of(" + film + ", 0)", x.of(film, 0), NO_SUCH);
                due("of(" + film + ", 5)", x.of(film, 5), NO_SUCH);
                due("of(" + film + ", 10)", x.of(film, 10), NO_SUCH);
            }
            if (films > 0) {
                due("the last film's crowd", x.of(films - 1, 1), 9);
            }
        }
    }

    private static VillageCinema hallOf(int films) {
        VillageCinema x = new VillageCinema();
        for (int film = 0; film < films; film++) {
            x.film(0, 9, 0, 50, 0);
        }
        return x;
    }

    private void ofOutOfRange() {
        VillageCinema x = allShown();
        for (int what : beyond(0, 10)) {
            due("of(0, " + what + ")", x.of(0, what), BAD_VALUE);
        }
    }

    private void ofFilmWithoutShow() {
        VillageCinema x = new VillageCinema();
        x.film(2, 100, 33, 44, 30);
        int[] want = {2, 100, 33, 44, 30, 0, 0, 0, 0, 100, NONE};
        for (int what = 0; what <= 10; what++) {
            due("of(0, " + what + ")", x.of(0, what), want[what]);
        }
    }

    private void ofFirstDayShown() {
        for (int day = 0; day < 35; day++) {
            for (int part = 0; part < 2; part++) {
                VillageCinema x = hall(100, 100);
                x.show(1, day, part);
                due("a show on day " + day, x.of(1, 10), day);
                due("none of film 0", x.of(0, 10), NONE);
                x.show(1, 34, 1);
                due("and on day 34", x.of(1, 10), day);
                x.show(1, 0, 1);
                due("and on day 0", x.of(1, 10), 0);
            }
        }
    }

    private void ofFilmShownEverywhere() {
        VillageCinema x = allShown();
        due("of(0, 5)", x.of(0, 5), 70);
        due("of(0, 10)", x.of(0, 10), 0);
        int people = 0;
        for (int place = 0; place < 70; place++) {
            people += x.at(place / 2, place % 2, 1);
        }
        due("of(0, 6)", x.of(0, 6), people);
        due("of(0, 7)", x.of(0, 7), people * 6);
        due("of(0, 9)", x.of(0, 9), x.at(34, 1, 3));
    }

    private void inWeekNoSuchFilm() {
        for (int films = 0; films <= 8; films++) {
            VillageCinema x = hallOf(films);
            for (int what = 0; what <= 4; what++) {
                due("inWeek(" + films + ", 0, " + what + ")", x.inWeek(films, 0, what), NO_SUCH);
            }
            for (int film : beyond(0, 7)) {
                due("inWeek(" + film + ", 0, 1)", x.inWeek(film, 0, 1), NO_SUCH);
            }
            if (films > 0) {
                due("the last film", x.inWeek(films - 1, 4, 0), 0);
            }
        }
    }

    private void inWeekOutOfRange() {
        VillageCinema x = allShown();
        for (int what = 0; what < 4; what++) {
            for (int week : beyond(0, 4)) {
                due("inWeek(0, " + week + ", " + what + ")", x.inWeek(0, week, what), BAD_VALUE);
            }
        }
        for (int what : beyond(0, 3)) {
            due("inWeek(0, 0, " + what + ")", x.inWeek(0, 0, what), BAD_VALUE);
            due("inWeek(0, 4, " + what + ")", x.inWeek(0, 4, what), BAD_VALUE);
        }
    }

    private void weekOutOfRange() {
        VillageCinema x = allShown();
        for (int what = 0; what < 5; what++) {
            for (int week : beyond(0, 4)) {
                due("week(" + week + ", " + what + ")", x.week(week, what), BAD_VALUE);
            }
        }
        for (int what : beyond(0, 4)) {
            due("week(0, " + what + ")", x.week(0, what), BAD_VALUE);
            due("week(4, " + what + ")", x.week(4, what), BAD_VALUE);
        }
    }

    private void weekOfEachDay() {
        for (int day = 0; day < 35; day++) {
            VillageCinema x = hall(100);
            x.show(0, day, 1);
            for (int week = 0; week < 5; week++) {
                boolean its = week == day / 7;
                due("a show on day " + day + ", week " + week, x.week(week, 0), its ? 1 : 0);
                due("its people", x.week(week, 1), its ? x.at(day, 1, 1) : 0);
                due("its takings", x.week(week, 2), its ? x.at(day, 1, 2) : 0);
            }
            x.let(day, 7);
            for (int week = 0; week < 5; week++) {
                due("a rent on day " + day, x.week(week, 4), week == day / 7 ? MILLION + 7 : MILLION);
            }
        }
    }

    private void weekWithoutShows() {
        VillageCinema x = hall(100);
        x.show(0, 13, 1);
        x.show(0, 21, 0);
        for (int what = 0; what < 5; what++) {
            due("week(2, " + what + ")", x.week(2, what), what == 4 ? MILLION : 0);
        }
    }

    private void weekLeft() {
        VillageCinema x = new VillageCinema();
        x.film(0, 1, 70, 20, 0);
        x.show(0, 0, 0);
        due("below 0", x.week(0, 4), MILLION - 100);
        x.let(6, 99);
        due("just below 0", x.week(0, 4), MILLION - 1);
        x.let(6, 100);
        due("just 0", x.week(0, 4), MILLION);
        x.let(6, 101);
        due("just above 0", x.week(0, 4), MILLION + 1);
        x.let(7, 999);
        due("not with the next week's rent", x.week(0, 4), MILLION + 1);
        for (int day = 7; day < 14; day++) {
            x.let(day, 999);
        }
        due("seven rents", x.week(1, 4), MILLION + 6993);
    }

    private void distributorOutOfRange() {
        VillageCinema x = allShown();
        for (int what = 0; what < 3; what++) {
            for (int distributor : beyond(0, 3)) {
                due("distributor(" + distributor + ", " + what + ")", x.distributor(distributor, what), BAD_VALUE);
            }
        }
        for (int what : beyond(0, 2)) {
            due("distributor(0, " + what + ")", x.distributor(0, what), BAD_VALUE);
            due("distributor(3, " + what + ")", x.distributor(3, what), BAD_VALUE);
        }
    }

    private void distributorWithoutShows() {
        VillageCinema x = new VillageCinema();
        for (int film = 0; film < 8; film++) {
            x.film(film < 4 ? 1 : 3, 1, 500, 50, 0);
        }
        x.show(4, 0, 0);
        x.show(7, 34, 1);
        int[][] want = {{0, 0, 0}, {4, 0, 0}, {0, 0, 0}, {4, 2, 1000}};
        for (int distributor = 0; distributor < 4; distributor++) {
            for (int what = 0; what < 3; what++) {
                due("distributor(" + distributor + ", " + what + ")", x.distributor(distributor, what),
                    want[distributor][what]);
            }
        }
    }

    private void rentOutOfRange() {
        VillageCinema x = new VillageCinema();
        for (int day = 0; day < 35; day++) {
            x.let(day, 900 + day);
        }
        for (int day : beyond(0, 34)) {
            due("rent(" + day + ")", x.rent(day), BAD_VALUE);
        }
    }

    private void rentOfEachDay() {
        VillageCinema x = new VillageCinema();
        for (int day = 0; day < 35; day++) {
            due("rent(" + day + ")", x.rent(day), 0);
            x.let(day, 965 + day);
        }
        int rents = 0;
        for (int day = 0; day < 35; day++) {
            due("rent(" + day + ")", x.rent(day), 965 + day);
            rents += 965 + day;
        }
        due("count(6)", x.count(6), rents);
        due("count(5)", x.count(5), MILLION + rents);
        x.let(20, 0);
        due("rent(20)", x.rent(20), 0);
        due("rent(19)", x.rent(19), 984);
    }

    private void countOutOfRange() {
        VillageCinema x = allShown();
        for (int what : beyond(0, 14)) {
            due("count(" + what + ")", x.count(what), BAD_VALUE);
        }
    }

    private void countLeft() {
        VillageCinema x = new VillageCinema();
        x.film(0, 1, 470, 20, 0);
        due("without shows", x.count(5), MILLION);
        x.show(0, 0, 0);
        due("below 0", x.count(5), MILLION - 500);
        x.let(34, 499);
        due("just below 0", x.count(5), MILLION - 1);
        x.let(34, 500);
        due("just 0", x.count(5), MILLION);
        x.let(34, 501);
        due("just above 0", x.count(5), MILLION + 1);
        VillageCinema worst = new VillageCinema();
        worst.set(VillageCinema.COST, 200);
        for (int film = 0; film < 8; film++) {
            worst.film(0, 1, 500, 20, 0);
        }
        for (int place = 0; place < 70; place++) {
            worst.show(place % 8, place / 2, place % 2);
        }
        due("the least that can be left", worst.count(5), MILLION - 70 * 200 - 8 * 5 * 500);
    }

    private void countFullShows() {
        VillageCinema x = hall(100);
        x.show(0, 0, 1);
        int[][] cases = {{41, 0}, {40, 1}, {39, 1}, {10, 1}, {300, 0}};
        for (int[] c : cases) {
            x.set(VillageCinema.SEATS, c[0]);
            due("40 people want " + c[0] + " seats", x.count(7), c[1]);
        }
        VillageCinema all = allShown();
        all.set(VillageCinema.SEATS, 10);
        int full = 0;
        for (int place = 0; place < 70; place++) {
            full += all.at(place / 2, place % 2, 1) == 10 ? 1 : 0;
        }
        due("of 70 shows", all.count(7), full);
    }

    private void countPad() {
        VillageCinema x = new VillageCinema();
        for (int length = 0; length <= 60; length++) {
            due("count(13)", x.count(13), length);
            x.put('0');
        }
        due("count(13) when it is full", x.count(13), 60);
        x.wipe();
        due("count(13) when it is wiped", x.count(13), 0);
    }

    private void countHistory() {
        VillageCinema x = new VillageCinema();
        for (int changes = 0; changes <= 20; changes++) {
            due("count(14) behind " + changes, x.count(14), Math.min(changes, 6));
            x.let(changes, 1);
        }
        for (int left = 5; left >= 0; left--) {
            x.undo();
            due("count(14)", x.count(14), left);
        }
        x.undo();
        due("count(14) with none", x.count(14), 0);
    }

    private void countAllShown() {
        VillageCinema x = allShown();
        due("count(1)", x.count(1), 70);
        for (int week = 0; week < 5; week++) {
            due("week(" + week + ", 0)", x.week(week, 0), 14);
        }
        due("distributor(0, 1)", x.distributor(0, 1), 70);
        due("count(2)", x.count(2), x.of(0, 6));
        due("count(3)", x.count(3), x.of(0, 7));
        due("count(4)", x.count(4), x.of(0, 8));
        due("count(5)", x.count(5), MILLION + x.of(0, 7) - x.of(0, 8) - 2100);
    }
}
