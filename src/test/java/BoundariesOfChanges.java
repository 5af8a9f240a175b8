/** The boundaries that promises 1 to 7 name: a new object, and the changes but for carryOut() and restore(). */
final class BoundariesOfChanges extends Boundaries {
    BoundariesOfChanges(Checks checks) {
        super(checks);
    }

    @Override
    void run() {
        sentence(1, "a hall without films", this::newWithoutFilms);
        sentence(1, "a new object has no show, no rent and no money", this::newWithoutShows);
        sentence(1, "(range; first value)", this::newSettings);
        sentence(1, "nothing on the pad, in the history and in the slots", this::newWithoutPadAndHistory);
        sentence(1, "an object of its own", this::newOnItsOwn);
        sentence(2, "BAD_VALUE if there is no such setting", this::setNoSuchSetting);
        sentence(2, "BAD_VALUE if the value is out of its range", this::setOutOfRange);
        sentence(2, "the ends of each range", this::setEnds);
        sentence(2, "returns the previous value", this::setPrevious);
        sentence(3, "BAD_VALUE if an argument is out of range", this::filmOutOfRange);
        sentence(3, "the ends of each argument's range", this::filmEnds);
        sentence(3, "up to 8 films, TOO_MANY if there are 8", this::filmTooMany);
        sentence(3, "numbered in the order in which they came", this::filmNumbers);
        runOfShows();
        runOfLet();
    }

    private void runOfShows() {
        sentence(4, "NO_SUCH if there is no such film", this::showNoSuchFilm);
        sentence(4, "BAD_VALUE if day or part is out of range", this::showOutOfRange);
        sentence(4, "days, 0 to 34, an afternoon (part 0) and an evening (part 1)", this::showEverywhere);
        sentence(4, "NOT_POSSIBLE if the day is let", this::showOnDayLet);
        sentence(4, "NOT_POSSIBLE before the film's first day", this::showBeforeFirstDay);
        sentence(4, "in place of the one that is there; returns it (NONE)", this::showInPlace);
        sentence(5, "BAD_VALUE if day or part is out of range", this::dropOutOfRange);
        sentence(5, "returns its film", this::dropFilm);
        sentence(5, "NOT_POSSIBLE if there is none", this::dropNone);
        sentence(6, "BAD_VALUE if a day or a part is out of range", this::exchangeOutOfRange);
        sentence(6, "exchanges shows, or none", this::exchangeOrNone);
        sentence(6, "a part with itself", this::exchangeWithItself);
        sentence(6, "NOT_POSSIBLE if a day is let", this::exchangeWithDayLet);
        sentence(6, "NOT_POSSIBLE if a show would be before its film's first day", this::exchangeBeforeFirstDay);
        sentence(6, "how much more is left by that, and 1000000", this::exchangeGain);
    }

    private void runOfLet() {
        sentence(7, "BAD_VALUE if an argument is out of range", this::letOutOfRange);
        sentence(7, "rent: 0 to 999", this::letEnds);
        sentence(7, "its shows are dropped; returns how many", this::letDrops);
        sentence(7, "with 0 it is not let any more", this::letNotAnyMore);
        sentence(7, "no show is dropped with 0, also if it was not let", this::letWithZeroDropsNone);
        sentence(7, "a day that is let already", this::letAgain);
    }

    private void newWithoutFilms() {
        VillageCinema x = new VillageCinema();
        due("count(0)", x.count(0), 0);
        for (int film = 0; film < 8; film++) {
            due("of(" + film + ", 0)", x.of(film, 0), NO_SUCH);
            due("inWeek(" + film + ", 0, 0)", x.inWeek(film, 0, 0), NO_SUCH);
            due("show(" + film + ", 0, 0)", x.show(film, 0, 0), NO_SUCH);
            due("ifShown(" + film + ", 0, 0)", x.ifShown(film, 0, 0), NO_SUCH);
        }
        for (int distributor = 0; distributor < 4; distributor++) {
            for (int what = 0; what < 3; what++) {
                due("distributor(" + distributor + ", " + what + ")", x.distributor(distributor, what), 0);
            }
        }
        due("bestFilm(0, 0, 0)", x.bestFilm(0, 0, 0), NONE);
    }

    private void newWithoutShows() {
        VillageCinema x = new VillageCinema();
        for (int day = 0; day < 35; day++) {
            due("rent(" + day + ")", x.rent(day), 0);
            for (int part = 0; part < 2; part++) {
                due("at(" + day + ", " + part + ", 0)", x.at(day, part, 0), NONE);
                due("drop(" + day + ", " + part + ")", x.drop(day, part), NOT_POSSIBLE);
            }
        }
        for (int week = 0; week < 5; week++) {
            for (int what = 0; what < 5; what++) {
                due("week(" + week + ", " + what + ")", x.week(week, what), what == 4 ? MILLION : 0);
            }
        }
        for (int what = 1; what <= 7; what++) {
            due("count(" + what + ")", x.count(what), what == 5 ? MILLION : 0);
        }
        due("worstShow(0)", x.worstShow(0), NONE);
    }

    private void newSettings() {
        VillageCinema x = new VillageCinema();
        for (int setting = 0; setting < 5; setting++) {
            due("count(" + (8 + setting) + ")", x.count(8 + setting), FIRST_SETTINGS[setting]);
        }
    }

    private void newWithoutPadAndHistory() {
        VillageCinema x = new VillageCinema();
        due("count(13)", x.count(13), 0);
        due("fault()", x.fault(), 0);
        due("wipe()", x.wipe(), 0);
        due("count(14)", x.count(14), 0);
        due("undo()", x.undo(), NOT_POSSIBLE);
        due("restore(0)", x.restore(0), NOT_POSSIBLE);
        due("restore(1)", x.restore(1), NOT_POSSIBLE);
    }

    private void newOnItsOwn() {
        VillageCinema used = hall(100, 200);
        used.set(VillageCinema.PRICE, 9);
        used.show(0, 3, 1);
        used.let(4, 50);
        used.put(Checks.packed("0a1"));
        used.save(0);
        VillageCinema x = new VillageCinema();
        for (int what = 0; what <= 7; what++) {
            due("count(" + what + ")", x.count(what), what == 5 ? MILLION : 0);
        }
        due("price", x.count(9), 6);
        due("pad", x.count(13), 0);
        due("history", x.count(14), 0);
        due("slot", x.restore(0), NOT_POSSIBLE);
        x.film(1, 5, 5, 25, 5);
        due("the used one's films", used.count(0), 2);
        due("the used one's film 0", used.of(0, 1), 100);
    }

    private void setNoSuchSetting() {
        VillageCinema x = new VillageCinema();
        // 20 is in the range of every setting.
        for (int setting : beyond(0, 4)) {
            due("set(" + setting + ", 20)", x.set(setting, 20), BAD_VALUE);
        }
        newSettings();
    }

    private void setOutOfRange() {
        for (int setting = 0; setting < 5; setting++) {
            VillageCinema x = new VillageCinema();
            for (int value : beyond(SETTING_RANGES[setting][0], SETTING_RANGES[setting][1])) {
                due("set(" + setting + ", " + value + ")", x.set(setting, value), BAD_VALUE);
            }
            due("count(" + (8 + setting) + ") then", x.count(8 + setting), FIRST_SETTINGS[setting]);
            due("count(14) then", x.count(14), 0);
        }
    }

    private void setEnds() {
        for (int setting = 0; setting < 5; setting++) {
            for (int end : SETTING_RANGES[setting]) {
                VillageCinema x = new VillageCinema();
                due("set(" + setting + ", " + end + ")", x.set(setting, end), FIRST_SETTINGS[setting]);
                for (int other = 0; other < 5; other++) {
                    int want = other == setting ? end : FIRST_SETTINGS[other];
                    due("count(" + (8 + other) + ") then", x.count(8 + other), want);
                }
            }
        }
    }

    private void setPrevious() {
        VillageCinema x = new VillageCinema();
        due("the first value", x.set(VillageCinema.COST, 0), 30);
        due("0 is a value", x.set(VillageCinema.COST, 0), 0);
        due("the same once more", x.set(VillageCinema.COST, 200), 0);
        due("the greatest one", x.set(VillageCinema.COST, 30), 200);
        due("a refused one", x.set(VillageCinema.COST, 201), BAD_VALUE);
        due("is not the previous one", x.set(VillageCinema.COST, 1), 30);
    }

    private void filmOutOfRange() {
        int[][] ranges = {{0, 3}, {1, 999}, {0, 500}, {20, 90}, {0, 34}};
        VillageCinema x = new VillageCinema();
        for (int place = 0; place < 5; place++) {
            for (int value : beyond(ranges[place][0], ranges[place][1])) {
                int[] f = {0, 1, 0, 20, 0};
                f[place] = value;
                due("argument " + place + " is " + value, x.film(f[0], f[1], f[2], f[3], f[4]), BAD_VALUE);
            }
        }
        due("count(0) then", x.count(0), 0);
        due("count(14) then", x.count(14), 0);
    }

    private void filmEnds() {
        int[] least = {0, 1, 0, 20, 0};
        int[] most = {3, 999, 500, 90, 34};
        for (int place = 0; place < 5; place++) {
            VillageCinema x = new VillageCinema();
            int[] f = least.clone();
            int[] g = most.clone();
            f[place] = most[place];
            g[place] = least[place];
            due("the least but argument " + place, x.film(f[0], f[1], f[2], f[3], f[4]), 0);
            due("the most but argument " + place, x.film(g[0], g[1], g[2], g[3], g[4]), 1);
            for (int what = 0; what < 5; what++) {
                due("of(0, " + what + ")", x.of(0, what), f[what]);
                due("of(1, " + what + ")", x.of(1, what), g[what]);
            }
        }
    }

    private void filmTooMany() {
        VillageCinema x = hall(1, 2, 3, 4, 5, 6, 7);
        due("the eighth", x.film(3, 999, 500, 90, 34), 7);
        due("the ninth", x.film(0, 1, 0, 20, 0), TOO_MANY);
        due("once more", x.film(3, 999, 500, 90, 34), TOO_MANY);
        due("count(0)", x.count(0), 8);
        due("the eighth is as it was", x.of(7, 1), 999);
        due("no film 8", x.of(8, 0), NO_SUCH);
        x.undo();
        due("one goes, one comes", x.film(1, 77, 7, 70, 7), 7);
        due("and it is that one", x.of(7, 1), 77);
        due("the ninth again", x.film(0, 1, 0, 20, 0), TOO_MANY);
    }

    private void filmNumbers() {
        VillageCinema x = new VillageCinema();
        for (int film = 0; film < 8; film++) {
            due("film " + film, x.film(3 - film % 4, 900 - film, 50 + film, 80 - film, 30 - film), film);
        }
        for (int film = 0; film < 8; film++) {
            int[] want = {3 - film % 4, 900 - film, 50 + film, 80 - film, 30 - film};
            for (int what = 0; what < 5; what++) {
                due("of(" + film + ", " + what + ")", x.of(film, what), want[what]);
            }
        }
    }

    private void showNoSuchFilm() {
        VillageCinema x = new VillageCinema();
        for (int films = 0; films <= 8; films++) {
            due("show(" + films + ", 0, 0) with " + films + " films", x.show(films, 0, 0), NO_SUCH);
            for (int film : beyond(0, 7)) {
                due("show(" + film + ", 0, 0)", x.show(film, 0, 0), NO_SUCH);
            }
            if (films > 0) {
                due("the last film", x.show(films - 1, films, 0), NONE);
            }
            x.film(0, 100, 0, 50, 0);
        }
        due("at(0, 0, 0)", x.at(0, 0, 0), NONE);
    }

    private void showOutOfRange() {
        VillageCinema x = hall(100);
        for (int day : beyond(0, 34)) {
            due("show(0, " + day + ", 0)", x.show(0, day, 0), BAD_VALUE);
        }
        for (int part : beyond(0, 1)) {
            due("show(0, 7, " + part + ")", x.show(0, 7, part), BAD_VALUE);
        }
        due("count(1) then", x.count(1), 0);
        due("count(14) then", x.count(14), 1);
    }

    private void showEverywhere() {
        for (int day = 0; day < 35; day++) {
            for (int part = 0; part < 2; part++) {
                VillageCinema x = hall(100);
                due("show(0, " + day + ", " + part + ")", x.show(0, day, part), NONE);
                due("it is there", x.at(day, part, 0), 0);
                due("it is the only one", x.count(1), 1);
            }
        }
    }

    private void showOnDayLet() {
        for (int day : new int[] {0, 17, 34}) {
            for (int rent : new int[] {1, 999}) {
                VillageCinema x = hall(100);
                x.let(day, rent);
                for (int part = 0; part < 2; part++) {
                    due("rent " + rent, x.show(0, day, part), NOT_POSSIBLE);
                }
                due("count(1) then", x.count(1), 0);
                due("the day beside it", x.show(0, day == 34 ? 33 : day + 1, 0), NONE);
                x.let(day, 0);
                due("not let any more", x.show(0, day, 1), NONE);
            }
        }
    }

    private void showBeforeFirstDay() {
        for (int first = 0; first < 35; first++) {
            VillageCinema x = hall(100);
            x.film(0, 100, 0, 50, first);
            if (first > 0) {
                x.show(0, first - 1, 1);
                due("the evening before day " + first, x.show(1, first - 1, 1), NOT_POSSIBLE);
                due("the afternoon before day " + first, x.show(1, first - 1, 0), NOT_POSSIBLE);
                due("day 0", x.show(1, 0, 0), NOT_POSSIBLE);
                due("what is there stays", x.at(first - 1, 1, 0), 0);
            }
            due("the afternoon of day " + first, x.show(1, first, 0), NONE);
            due("day 34", x.show(1, 34, 1), NONE);
        }
    }

    private void showInPlace() {
        VillageCinema x = hall(100, 100, 100);
        due("none there", x.show(2, 5, 0), NONE);
        due("count(14): NONE is no error", x.count(14), 4);
        due("film 2 is there", x.show(0, 5, 0), 2);
        due("film 0 is there", x.show(0, 5, 0), 0);
        due("film 0 is there still", x.show(1, 5, 0), 0);
        due("at(5, 0, 0)", x.at(5, 0, 0), 1);
        due("the other part is without a show", x.show(2, 5, 1), NONE);
        due("count(1)", x.count(1), 2);
        due("of(0, 5)", x.of(0, 5), 0);
    }

    private void dropOutOfRange() {
        VillageCinema x = allShown();
        for (int day : beyond(0, 34)) {
            due("drop(" + day + ", 0)", x.drop(day, 0), BAD_VALUE);
            due("drop(" + day + ", 1)", x.drop(day, 1), BAD_VALUE);
        }
        for (int part : beyond(0, 1)) {
            due("drop(7, " + part + ")", x.drop(7, part), BAD_VALUE);
        }
        due("count(1) then", x.count(1), 70);
    }

    private void dropFilm() {
        VillageCinema x = hall(100, 100);
        int[][] places = {{0, 0}, {0, 1}, {34, 0}, {34, 1}};
        for (int[] place : places) {
            x.show(1, place[0], place[1]);
        }
        x.show(0, 0, 1);
        for (int i = 0; i < 4; i++) {
            due("drop " + i, x.drop(places[i][0], places[i][1]), i == 1 ? 0 : 1);
            due("nothing is there", x.at(places[i][0], places[i][1], 0), NONE);
            due("count(1)", x.count(1), 3 - i);
        }
    }

    private void dropNone() {
        VillageCinema x = hall(100);
        due("no shows", x.drop(9, 0), NOT_POSSIBLE);
        x.show(0, 9, 1);
        due("the other part", x.drop(9, 0), NOT_POSSIBLE);
        due("the day before", x.drop(8, 1), NOT_POSSIBLE);
        due("the day behind", x.drop(10, 1), NOT_POSSIBLE);
        due("the show", x.drop(9, 1), 0);
        due("twice", x.drop(9, 1), NOT_POSSIBLE);
        x.let(9, 10);
        due("a day that is let", x.drop(9, 1), NOT_POSSIBLE);
    }

    private void exchangeOutOfRange() {
        VillageCinema x = hall(100);
        x.show(0, 7, 0);
        for (int day : beyond(0, 34)) {
            due("day " + day, x.exchange(day, 0, 7, 0), BAD_VALUE);
            due("other day " + day, x.exchange(7, 0, day, 0), BAD_VALUE);
        }
        for (int part : beyond(0, 1)) {
            due("part " + part, x.exchange(7, part, 7, 0), BAD_VALUE);
            due("other part " + part, x.exchange(7, 0, 7, part), BAD_VALUE);
        }
        due("count(14) then", x.count(14), 2);
        due("at(7, 0, 0) then", x.at(7, 0, 0), 0);
    }

    private void exchangeOrNone() {
        VillageCinema x = hall(100, 100);
        x.show(0, 0, 0);
        x.show(1, 34, 1);
        x.exchange(0, 0, 34, 1);
        due("two shows: the first place", x.at(0, 0, 0), 1);
        due("two shows: the last place", x.at(34, 1, 0), 0);
        x.exchange(0, 0, 20, 1);
        due("a show with none: from", x.at(0, 0, 0), NONE);
        due("a show with none: to", x.at(20, 1, 0), 1);
        x.exchange(0, 1, 20, 1);
        due("none with a show: to", x.at(0, 1, 0), 1);
        due("none with a show: from", x.at(20, 1, 0), NONE);
        due("none with none", x.exchange(5, 0, 6, 1), MILLION);
        due("count(1)", x.count(1), 2);
        due("count(14): it is a change, too", x.count(14), 6);
    }

    private void exchangeWithItself() {
        VillageCinema x = hall(100);
        x.show(0, 6, 1);
        due("a show", x.exchange(6, 1, 6, 1), MILLION);
        due("it is there still", x.at(6, 1, 0), 0);
        due("none", x.exchange(6, 0, 6, 0), MILLION);
        due("count(1)", x.count(1), 1);
        due("count(14)", x.count(14), 4);
    }

    private void exchangeWithDayLet() {
        VillageCinema x = hall(100);
        x.show(0, 6, 1);
        x.let(20, 1);
        x.let(21, 999);
        due("a show to it", x.exchange(6, 1, 20, 0), NOT_POSSIBLE);
        due("a show from it", x.exchange(21, 1, 6, 1), NOT_POSSIBLE);
        due("none to it", x.exchange(6, 0, 20, 1), NOT_POSSIBLE);
        due("none from it", x.exchange(21, 1, 6, 0), NOT_POSSIBLE);
        due("its own parts", x.exchange(20, 0, 20, 1), NOT_POSSIBLE);
        due("a part of it with itself", x.exchange(20, 0, 20, 0), NOT_POSSIBLE);
        due("one such day with another", x.exchange(20, 0, 21, 0), NOT_POSSIBLE);
        due("count(14) then", x.count(14), 4);
        due("at(6, 1, 0) then", x.at(6, 1, 0), 0);
        x.let(20, 0);
        due("not let any more", x.exchange(6, 1, 20, 0), MILLION - 120 + 33);
    }

    private void exchangeBeforeFirstDay() {
        VillageCinema x = hall(100);
        x.film(0, 100, 0, 50, 10);
        x.show(1, 15, 0);
        x.show(0, 9, 0);
        due("one day ahead, with none", x.exchange(15, 0, 9, 1), NOT_POSSIBLE);
        due("one day ahead, from none", x.exchange(9, 1, 15, 0), NOT_POSSIBLE);
        due("one day ahead, with a show", x.exchange(15, 0, 9, 0), NOT_POSSIBLE);
        due("one day ahead, from a show", x.exchange(9, 0, 15, 0), NOT_POSSIBLE);
        due("both are where they were", x.at(15, 0, 0) * 10 + x.at(9, 0, 0), 10);
        x.exchange(15, 0, 10, 0);
        due("to its first day", x.at(10, 0, 0), 1);
        x.exchange(10, 1, 10, 0);
        due("on its first day, from none", x.at(10, 1, 0), 1);
        due("none comes ahead of a first day", x.exchange(9, 1, 8, 1), MILLION);
    }

    private void exchangeGain() {
        VillageCinema x = hall(100);
        x.show(0, 0, 1);
        // 40 people bring 240 and 20 bring 120; half of it is due.
        due("less", x.exchange(0, 1, 0, 0), MILLION - 60);
        due("more", x.exchange(0, 1, 0, 0), MILLION + 60);
        due("neither", x.exchange(0, 1, 3, 1), MILLION);
        x.let(20, 500);
        due("a rent stays", x.exchange(3, 1, 3, 0), MILLION - 60);
    }

    private void letOutOfRange() {
        VillageCinema x = allShown();
        for (int day : beyond(0, 34)) {
            due("let(" + day + ", 5)", x.let(day, 5), BAD_VALUE);
            due("let(" + day + ", 0)", x.let(day, 0), BAD_VALUE);
        }
        for (int rent : beyond(0, 999)) {
            due("let(7, " + rent + ")", x.let(7, rent), BAD_VALUE);
        }
        due("count(1) then", x.count(1), 70);
        due("count(6) then", x.count(6), 0);
    }

    private void letEnds() {
        VillageCinema x = new VillageCinema();
        due("let(0, 999)", x.let(0, 999), 0);
        due("let(34, 1)", x.let(34, 1), 0);
        due("let(17, 0)", x.let(17, 0), 0);
        due("rent(0)", x.rent(0), 999);
        due("rent(34)", x.rent(34), 1);
        due("rent(17)", x.rent(17), 0);
        due("count(14)", x.count(14), 3);
    }

    private void letDrops() {
        VillageCinema x = hall(100, 100);
        int[][] places = {{10, 1}, {11, 0}, {11, 1}, {12, 0}, {13, 1}};
        for (int[] place : places) {
            x.show(place[0] % 2, place[0], place[1]);
        }
        due("both", x.let(11, 1), 2);
        due("the afternoon", x.let(12, 1), 1);
        due("the evening", x.let(13, 1), 1);
        due("none", x.let(14, 1), 0);
        due("count(1)", x.count(1), 1);
        due("the day before is left alone", x.at(10, 1, 0), 0);
        due("no afternoon", x.at(11, 0, 0), NONE);
        due("no evening", x.at(11, 1, 0), NONE);
        VillageCinema all = allShown();
        due("the first day", all.let(0, 1), 2);
        due("the last day", all.let(34, 1), 2);
        due("the others are left", all.count(1), 66);
    }

    private void letNotAnyMore() {
        VillageCinema x = hall(100);
        x.show(0, 9, 1);
        x.let(9, 100);
        due("let(9, 0)", x.let(9, 0), 0);
        due("rent(9)", x.rent(9), 0);
        due("the show does not come back", x.at(9, 1, 0), NONE);
        due("count(5)", x.count(5), MILLION);
        due("a show can come", x.show(0, 9, 1), NONE);
    }

    private void letWithZeroDropsNone() {
        VillageCinema x = allShown();
        for (int day = 0; day < 35; day++) {
            due("let(" + day + ", 0)", x.let(day, 0), 0);
        }
        due("count(1)", x.count(1), 70);
        VillageCinema none = new VillageCinema();
        due("a day without shows", none.let(3, 0), 0);
        due("a change all the same", none.count(14), 1);
    }

    private void letAgain() {
        VillageCinema x = hall(100);
        x.show(0, 9, 1);
        x.let(9, 100);
        due("for less", x.let(9, 1), 0);
        due("rent(9)", x.rent(9), 1);
        due("for more", x.let(9, 999), 0);
        due("count(6)", x.count(6), 999);
        due("for the same", x.let(9, 999), 0);
        due("count(14)", x.count(14), 6);
    }
}
