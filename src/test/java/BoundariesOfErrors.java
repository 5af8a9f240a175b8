import java.util.function.Supplier;
import java.util.function.ToIntFunction;

/** The conventions, method by method: the order of the errors, and that a refused call changes nothing. */
final class BoundariesOfErrors extends Boundaries {
    private static final String ORDER = "in the order in which they are checked";
    private static final String UNCHANGED = "a call that returns an error changes nothing";
    private static final String NOTHING = "nothing changes";
    private static final int[] ODD_DAYS = {Integer.MIN_VALUE, -1, 35, Integer.MAX_VALUE, 0, 4, 5, 20, 34};
    private static final int[] ODD_PARTS = {Integer.MIN_VALUE, -1, 2, Integer.MAX_VALUE, 0, 1};
    private static final int[] ODD_FILMS = {Integer.MIN_VALUE, NONE, -1, 2, 8, Integer.MAX_VALUE, 0, 1};
    private static final int[] ODD_NUMBERS = {Integer.MIN_VALUE, -1, 0, 1, 2, 3, 4, 5, 10, 11, 14, 15, Integer.MAX_VALUE};

    private Supplier<VillageCinema> scene;
    private String sceneToldBefore;

    BoundariesOfErrors(Checks checks) {
        super(checks);
    }

    @Override
    void run() {
        runOfOrder();
        runOfChanges();
        runOfQuestions();
        runOfTextsAndSlots();
    }

    private void runOfOrder() {
        sentence(3, "BAD_VALUE, TOO_MANY " + ORDER, this::orderOfFilm);
        sentence(4, "NO_SUCH, BAD_VALUE, NOT_POSSIBLE " + ORDER, this::orderOfShow);
        sentence(5, "BAD_VALUE, NOT_POSSIBLE " + ORDER, this::orderOfDrop);
        sentence(6, "BAD_VALUE, NOT_POSSIBLE " + ORDER, this::orderOfExchange);
        sentence(9, "NONE only if no error applies", this::orderOfAt);
        sentence(10, "NO_SUCH, BAD_VALUE " + ORDER + "; NONE only if no error applies", this::orderOfOf);
        sentence(11, "NO_SUCH, BAD_VALUE " + ORDER + "; NONE only if no error applies", this::orderOfInWeek);
        sentence(16, "NO_SUCH, BAD_VALUE, NOT_POSSIBLE " + ORDER, this::orderOfIfShown);
        sentence(17, "BAD_VALUE, NOT_POSSIBLE " + ORDER + "; NONE only if no error applies", this::orderOfBestFilm);
        sentence(18, "NONE only if no error applies", this::orderOfWorstShow);
        sentence(19, "BAD_VALUE, NOT_POSSIBLE " + ORDER + "; NONE only if no error applies", this::orderOfPriceFor);
        sentence(20, "BAD_VALUE, TOO_MANY " + ORDER, this::orderOfPut);
        sentence(25, "BAD_VALUE, NOT_POSSIBLE " + ORDER, this::orderOfRestore);
    }

    /** Two films, the second from day 5 on; day 20 is let; a show of film 0 on the evening of day 5. */
    private static VillageCinema twoFilms() {
        VillageCinema x = hall(100);
        x.film(0, 100, 0, 50, 5);
        x.let(20, 1);
        x.show(0, 5, 1);
        return x;
    }

    private static boolean isDay(int day) {
        return day >= 0 && day <= 34;
    }

    private static boolean isPart(int part) {
        return part == 0 || part == 1;
    }

    /** What show() has to answer in the hall with two films, or 0 for no error. */
    private static int errorOfShow(int film, int day, int part) {
        if (film != 0 && film != 1) {
            return NO_SUCH;
        }
        if (!isDay(day) || !isPart(part)) {
            return BAD_VALUE;
        }
        return day == 20 || film == 1 && day < 5 ? NOT_POSSIBLE : 0;
    }

    /** The answer has to be the error, or none of the errors if the one that is due is 0. */
    private void dueError(String call, int got, int error) {
        boolean isError = got >= NOT_POSSIBLE && got <= NO_SUCH;
        due(call, isError ? got : 0, error);
    }

    private void orderOfFilm() {
        VillageCinema x = hall(1, 2, 3, 4, 5, 6, 7, 8);
        due("only too many", x.film(0, 1, 0, 20, 0), TOO_MANY);
        int[][] bad = {{4, 1, 0, 20, 0}, {-1, 1, 0, 20, 0}, {0, 0, 0, 20, 0}, {0, 1000, 0, 20, 0}, {0, 1, -1, 20, 0},
            {0, 1, 501, 20, 0}, {0, 1, 0, 19, 0}, {0, 1, 0, 91, 0}, {0, 1, 0, 20, -1}, {0, 1, 0, 20, 35}};
        for (int[] f : bad) {
            due("out of range, too", x.film(f[0], f[1], f[2], f[3], f[4]), BAD_VALUE);
        }
    }

    private void orderOfShow() {
        for (int film : ODD_FILMS) {
            for (int day : ODD_DAYS) {
                for (int part : ODD_PARTS) {
                    dueError("show(" + film + ", " + day + ", " + part + ")", twoFilms().show(film, day, part),
                        errorOfShow(film, day, part));
                }
            }
        }
    }

    private void orderOfDrop() {
        for (int day : ODD_DAYS) {
            for (int part : ODD_PARTS) {
                int none = day == 5 && part == 1 ? 0 : NOT_POSSIBLE;
                dueError("drop(" + day + ", " + part + ")", twoFilms().drop(day, part),
                    isDay(day) && isPart(part) ? none : BAD_VALUE);
            }
        }
    }

    private void orderOfExchange() {
        for (int day : ODD_DAYS) {
            for (int part : ODD_PARTS) {
                for (int otherDay : ODD_DAYS) {
                    for (int otherPart : ODD_PARTS) {
                        boolean good = isDay(day) && isPart(part) && isDay(otherDay) && isPart(otherPart);
                        VillageCinema x = twoFilms();
                        x.show(1, 5, 0);
                        boolean early = day == 5 && part == 0 && otherDay < 5
                            || otherDay == 5 && otherPart == 0 && day < 5;
                        int want = day == 20 || otherDay == 20 || early ? NOT_POSSIBLE : 0;
                        dueError("exchange(" + day + ", " + part + ", " + otherDay + ", " + otherPart + ")",
                            x.exchange(day, part, otherDay, otherPart), good ? want : BAD_VALUE);
                    }
                }
            }
        }
    }

    private void orderOfAt() {
        for (int day : ODD_DAYS) {
            for (int part : ODD_PARTS) {
                for (int what : ODD_NUMBERS) {
                    boolean good = isDay(day) && isPart(part) && what >= 0 && what <= 3;
                    dueError("at(" + day + ", " + part + ", " + what + ")", twoFilms().at(day, part, what),
                        good ? 0 : BAD_VALUE);
                }
            }
        }
    }

    private void orderOfOf() {
        for (int film : ODD_FILMS) {
            for (int what : ODD_NUMBERS) {
                int want = what >= 0 && what <= 10 ? 0 : BAD_VALUE;
                dueError("of(" + film + ", " + what + ")", twoFilms().of(film, what),
                    film == 0 || film == 1 ? want : NO_SUCH);
            }
        }
    }

    private void orderOfInWeek() {
        for (int film : ODD_FILMS) {
            for (int week : ODD_NUMBERS) {
                for (int what : ODD_NUMBERS) {
                    boolean good = week >= 0 && week <= 4 && what >= 0 && what <= 3;
                    dueError("inWeek(" + film + ", " + week + ", " + what + ")", twoFilms().inWeek(film, week, what),
                        film != 0 && film != 1 ? NO_SUCH : good ? 0 : BAD_VALUE);
                }
            }
        }
    }

    private void orderOfIfShown() {
        for (int film : ODD_FILMS) {
            for (int day : ODD_DAYS) {
                for (int part : ODD_PARTS) {
                    dueError("ifShown(" + film + ", " + day + ", " + part + ")", twoFilms().ifShown(film, day, part),
                        errorOfShow(film, day, part));
                }
            }
        }
    }

    private void orderOfBestFilm() {
        VillageCinema late = new VillageCinema();
        late.film(0, 100, 0, 50, 34);
        late.let(20, 1);
        for (int day : ODD_DAYS) {
            for (int part : ODD_PARTS) {
                for (int what : new int[] {Integer.MIN_VALUE, -1, 0, 1, 2, Integer.MAX_VALUE}) {
                    boolean good = isDay(day) && isPart(part) && (what == 0 || what == 1);
                    int got = late.bestFilm(day, part, what);
                    dueError("bestFilm(" + day + ", " + part + ", " + what + ")", got,
                        good ? day == 20 ? NOT_POSSIBLE : 0 : BAD_VALUE);
                    if (good && day < 20) {
                        due("NONE on day " + day, got, NONE);
                    }
                }
            }
        }
    }

    private void orderOfWorstShow() {
        for (int what : ODD_NUMBERS) {
            due("worstShow(" + what + ")", hall(100).worstShow(what), what >= 0 && what <= 2 ? NONE : BAD_VALUE);
        }
    }

    private void orderOfPriceFor() {
        for (int day : ODD_DAYS) {
            for (int part : ODD_PARTS) {
                for (int takings : new int[] {Integer.MIN_VALUE, 0, 1, 801, 5000, 5001, Integer.MAX_VALUE}) {
                    boolean good = isDay(day) && isPart(part) && takings >= 1 && takings <= 5000;
                    int shown = takings == 1 ? 1 : NONE;
                    int want = day == 5 && part == 1 ? shown : NOT_POSSIBLE;
                    due("priceFor(" + day + ", " + part + ", " + takings + ")",
                        twoFilms().priceFor(day, part, takings), good ? want : BAD_VALUE);
                }
            }
        }
    }

    private void orderOfPut() {
        VillageCinema x = new VillageCinema();
        Checks.putText(x, "0".repeat(60));
        long[] bad = {0, 32, 127, 255, 1, -1, Long.MIN_VALUE, 1L << 16 | '0', 32L << 8 | '0', (long) '0' << 8};
        due("only too many", x.put('0'), TOO_MANY);
        for (long characters : bad) {
            due("put(" + characters + ") on a full pad", x.put(characters), BAD_VALUE);
        }
    }

    private void orderOfRestore() {
        VillageCinema x = new VillageCinema();
        for (int slot : beyond(0, 1)) {
            due("restore(" + slot + ") with nothing saved", x.restore(slot), BAD_VALUE);
        }
        due("restore(0)", x.restore(0), NOT_POSSIBLE);
        due("restore(1)", x.restore(1), NOT_POSSIBLE);
    }

    // ---- what a call leaves as it is

    private static VillageCinema nothingYet() {
        return new VillageCinema();
    }

    /** Some shows, a text that ends too early, slot 1 saved, five changes that can be undone. */
    private static VillageCinema someShows() {
        VillageCinema x = twoFilms();
        x.save(1);
        x.show(1, 15, 0);
        x.put(Checks.packed("0a9,"));
        return x;
    }

    /** Eight films, a text that nearly fills the pad, both slots saved, six changes that can be undone. */
    private static VillageCinema muchOfAll() {
        VillageCinema x = new VillageCinema();
        x.set(VillageCinema.SEATS, 30);
        for (int film = 0; film < 8; film++) {
            x.film(film % 4, 60 + 50 * film, 40 * film, 30 + 5 * film, 2 * film);
        }
        x.show(0, 0, 0);
        x.save(0);
        x.let(20, 50);
        x.show(1, 9, 1);
        x.show(2, 9, 0);
        x.save(1);
        x.show(6, 12, 1);
        x.show(6, 21, 0);
        x.show(7, 34, 1);
        x.set(VillageCinema.COST, 20);
        x.let(33, 99);
        Checks.putText(x, "0a0,1e5,2a6,3e7,4a8,5e10,6a12,7e14,0a15,1e16,2a17,3e34");
        return x;
    }

    private static String snapshot(VillageCinema x) {
        return Checks.stateOf(x) + x.count(13) + " " + x.count(14) + " " + x.fault() + "\n";
    }

    /** All that can be found out of an object: what it tells now, undone, restored, and with its text carried out. */
    private static String told(Supplier<VillageCinema> made) {
        StringBuilder all = new StringBuilder(snapshot(made.get()));
        for (int undos = 1; undos <= 7; undos++) {
            VillageCinema x = made.get();
            for (int i = 0; i < undos; i++) {
                all.append(x.undo()).append(' ');
            }
            all.append(snapshot(x));
        }
        for (int slot = 0; slot < 2; slot++) {
            VillageCinema x = made.get();
            all.append(x.restore(slot)).append(' ').append(snapshot(x));
        }
        for (String more : new String[] {"", "0e9", ",0e9"}) {
            VillageCinema x = made.get();
            all.append(Checks.putText(x, more)).append(' ').append(x.carryOut()).append(' ').append(snapshot(x));
        }
        return all.toString();
    }

    private void in(Supplier<VillageCinema> newScene) {
        scene = newScene;
        sceneToldBefore = told(newScene);
    }

    /** The call answers what is due (an error, or NONE), and nothing is different then. */
    private void refused(String call, ToIntFunction<VillageCinema> made, int want) {
        due(call, made.applyAsInt(scene.get()), want);
        unchanged(call, made);
    }

    private void unchanged(String call, ToIntFunction<VillageCinema> made) {
        String after = told(() -> {
            VillageCinema x = scene.get();
            made.applyAsInt(x);
            return x;
        });
        same("behind " + call + " all is as it was", after, sceneToldBefore);
    }

    private void runOfChanges() {
        in(BoundariesOfErrors::muchOfAll);
        sentence(2, UNCHANGED, this::refusedSet);
        sentence(3, UNCHANGED, this::refusedFilm);
        sentence(4, UNCHANGED, this::refusedShow);
        sentence(5, UNCHANGED, this::refusedDrop);
        sentence(6, UNCHANGED, this::refusedExchange);
        sentence(7, UNCHANGED, this::refusedLet);
    }

    private void refusedSet() {
        refused("set(5, 20)", x -> x.set(5, 20), BAD_VALUE);
        refused("set(-1, 20)", x -> x.set(-1, 20), BAD_VALUE);
        for (int i = 0; i < 5; i++) {
            int setting = i;
            refused("too small", x -> x.set(setting, SETTING_RANGES[setting][0] - 1), BAD_VALUE);
            refused("too great", x -> x.set(setting, SETTING_RANGES[setting][1] + 1), BAD_VALUE);
        }
    }

    private void refusedFilm() {
        refused("a ninth film", x -> x.film(0, 1, 0, 20, 0), TOO_MANY);
        refused("distributor 4", x -> x.film(4, 1, 0, 20, 0), BAD_VALUE);
        in(BoundariesOfErrors::someShows);
        refused("distributor 4", x -> x.film(4, 1, 0, 20, 0), BAD_VALUE);
        refused("crowd 0", x -> x.film(0, 0, 0, 20, 0), BAD_VALUE);
        refused("minimum 501", x -> x.film(0, 1, 501, 20, 0), BAD_VALUE);
        refused("share 19", x -> x.film(0, 1, 0, 19, 0), BAD_VALUE);
        refused("first day 35", x -> x.film(0, 1, 0, 20, 35), BAD_VALUE);
        in(BoundariesOfErrors::muchOfAll);
    }

    private void refusedShow() {
        refused("show(8, 9, 1)", x -> x.show(8, 9, 1), NO_SUCH);
        refused("show(0, 35, 0)", x -> x.show(0, 35, 0), BAD_VALUE);
        refused("show(0, 9, 2)", x -> x.show(0, 9, 2), BAD_VALUE);
        refused("on a day that is let", x -> x.show(0, 20, 0), NOT_POSSIBLE);
        refused("before its first day, where a show is", x -> x.show(7, 9, 1), NOT_POSSIBLE);
    }

    private void refusedDrop() {
        refused("drop(-1, 1)", x -> x.drop(-1, 1), BAD_VALUE);
        refused("drop(9, 2)", x -> x.drop(9, 2), BAD_VALUE);
        refused("none there", x -> x.drop(10, 1), NOT_POSSIBLE);
        refused("a day that is let", x -> x.drop(20, 1), NOT_POSSIBLE);
    }

    private void refusedExchange() {
        refused("day 35", x -> x.exchange(9, 1, 35, 0), BAD_VALUE);
        refused("part -1", x -> x.exchange(9, -1, 10, 0), BAD_VALUE);
        refused("to a day that is let", x -> x.exchange(9, 1, 20, 0), NOT_POSSIBLE);
        refused("from a day that is let", x -> x.exchange(20, 1, 9, 0), NOT_POSSIBLE);
        refused("ahead of its first day", x -> x.exchange(12, 1, 11, 1), NOT_POSSIBLE);
        refused("the other one ahead of its first day", x -> x.exchange(0, 0, 12, 1), NOT_POSSIBLE);
    }

    private void refusedLet() {
        refused("day 35", x -> x.let(35, 5), BAD_VALUE);
        refused("rent 1000 where shows are", x -> x.let(9, 1000), BAD_VALUE);
        refused("rent -1 where shows are", x -> x.let(9, -1), BAD_VALUE);
        refused("rent 1000 where a rent is", x -> x.let(20, 1000), BAD_VALUE);
    }

    private void runOfQuestions() {
        in(BoundariesOfErrors::muchOfAll);
        sentence(9, NOTHING, this::unchangedByAt);
        sentence(10, NOTHING, this::unchangedByOf);
        sentence(11, NOTHING, this::unchangedByInWeek);
        sentence(12, NOTHING, this::unchangedByWeek);
        sentence(13, NOTHING, this::unchangedByDistributor);
        sentence(14, NOTHING, this::unchangedByRent);
        sentence(15, NOTHING, this::unchangedByCount);
        sentence(16, NOTHING, this::unchangedByIfShown);
        sentence(17, NOTHING, this::unchangedByBestFilm);
        sentence(18, NOTHING, this::unchangedByWorstShow);
        sentence(19, NOTHING, this::unchangedByPriceFor);
        sentence(22, "fault() changes nothing", () -> unchanged("fault()", VillageCinema::fault));
    }

    private void unchangedByAt() {
        for (int what = 0; what < 4; what++) {
            int asked = what;
            unchanged("at(9, 1, " + what + ")", x -> x.at(9, 1, asked));
        }
        refused("at(35, 0, 0)", x -> x.at(35, 0, 0), BAD_VALUE);
        refused("at(8, 0, 0)", x -> x.at(8, 0, 0), NONE);
    }

    private void unchangedByOf() {
        for (int what = 0; what <= 10; what++) {
            int asked = what;
            unchanged("of(6, " + what + ")", x -> x.of(6, asked));
        }
        refused("of(8, 0)", x -> x.of(8, 0), NO_SUCH);
        refused("of(0, 11)", x -> x.of(0, 11), BAD_VALUE);
    }

    private void unchangedByInWeek() {
        for (int what = 0; what < 4; what++) {
            int asked = what;
            unchanged("inWeek(6, 1, " + what + ")", x -> x.inWeek(6, 1, asked));
        }
        refused("inWeek(8, 0, 0)", x -> x.inWeek(8, 0, 0), NO_SUCH);
        refused("inWeek(0, 5, 0)", x -> x.inWeek(0, 5, 0), BAD_VALUE);
    }

    private void unchangedByWeek() {
        for (int what = 0; what < 5; what++) {
            int asked = what;
            unchanged("week(1, " + what + ")", x -> x.week(1, asked));
        }
        refused("week(5, 0)", x -> x.week(5, 0), BAD_VALUE);
    }

    private void unchangedByDistributor() {
        for (int what = 0; what < 3; what++) {
            int asked = what;
            unchanged("distributor(2, " + what + ")", x -> x.distributor(2, asked));
        }
        refused("distributor(4, 0)", x -> x.distributor(4, 0), BAD_VALUE);
    }

    private void unchangedByRent() {
        unchanged("rent(20)", x -> x.rent(20));
        unchanged("rent(9)", x -> x.rent(9));
        refused("rent(35)", x -> x.rent(35), BAD_VALUE);
    }

    private void unchangedByCount() {
        for (int what = 0; what <= 14; what++) {
            int asked = what;
            unchanged("count(" + what + ")", x -> x.count(asked));
        }
        refused("count(15)", x -> x.count(15), BAD_VALUE);
    }

    private void unchangedByIfShown() {
        unchanged("ifShown in an empty place", x -> x.ifShown(0, 10, 1));
        unchanged("ifShown in place of another", x -> x.ifShown(0, 9, 1));
        unchanged("ifShown in place of itself", x -> x.ifShown(1, 9, 1));
        refused("no such film", x -> x.ifShown(8, 9, 1), NO_SUCH);
        refused("day 35", x -> x.ifShown(0, 35, 1), BAD_VALUE);
        refused("a day that is let", x -> x.ifShown(0, 20, 1), NOT_POSSIBLE);
    }

    private void unchangedByBestFilm() {
        unchanged("bestFilm(9, 1, 0)", x -> x.bestFilm(9, 1, 0));
        unchanged("bestFilm(28, 0, 1)", x -> x.bestFilm(28, 0, 1));
        refused("day 35", x -> x.bestFilm(35, 1, 0), BAD_VALUE);
        refused("a day that is let", x -> x.bestFilm(20, 1, 0), NOT_POSSIBLE);
        in(BoundariesOfErrors::nothingYet);
        refused("no films", x -> x.bestFilm(0, 1, 0), NONE);
        in(BoundariesOfErrors::muchOfAll);
    }

    private void unchangedByWorstShow() {
        unchanged("worstShow(0)", x -> x.worstShow(0));
        unchanged("worstShow(2)", x -> x.worstShow(2));
        refused("worstShow(3)", x -> x.worstShow(3), BAD_VALUE);
        in(BoundariesOfErrors::nothingYet);
        refused("no shows", x -> x.worstShow(0), NONE);
        in(BoundariesOfErrors::muchOfAll);
    }

    private void unchangedByPriceFor() {
        unchanged("priceFor(9, 1, 100)", x -> x.priceFor(9, 1, 100));
        refused("too much", x -> x.priceFor(9, 1, 5000), NONE);
        refused("priceFor(9, 1, 5001)", x -> x.priceFor(9, 1, 5001), BAD_VALUE);
        refused("no show", x -> x.priceFor(10, 1, 1), NOT_POSSIBLE);
    }

    private void runOfTextsAndSlots() {
        in(BoundariesOfErrors::someShows);
        sentence(8, UNCHANGED, () -> refused("a text that ends too early", VillageCinema::carryOut, BAD_TEXT));
        sentence(20, UNCHANGED, this::refusedPut);
        sentence(24, UNCHANGED, this::refusedSave);
        sentence(25, UNCHANGED, this::refusedRestore);
        in(BoundariesOfErrors::nothingYet);
        sentence(8, UNCHANGED + ": an empty pad", () -> refused("carryOut()", VillageCinema::carryOut, BAD_TEXT));
        sentence(23, UNCHANGED, () -> refused("undo()", VillageCinema::undo, NOT_POSSIBLE));
    }

    private void refusedPut() {
        refused("put(0)", x -> x.put(0), BAD_VALUE);
        refused("a bad code", x -> x.put(' '), BAD_VALUE);
        refused("a bad code ahead of good ones", x -> x.put(32L << 16 | '0' << 8 | '0'), BAD_VALUE);
        refused("a bad code behind good ones", x -> x.put('0' << 16 | '0' << 8 | 127), BAD_VALUE);
        refused("a bit above 0", x -> x.put(1L << 63 | '0'), BAD_VALUE);
        in(BoundariesOfErrors::muchOfAll);
        refused("too many", x -> x.put(Checks.packed("0a0,0a0,")), TOO_MANY);
        in(BoundariesOfErrors::someShows);
    }

    private void refusedSave() {
        refused("save(-1)", x -> x.save(-1), BAD_VALUE);
        refused("save(2)", x -> x.save(2), BAD_VALUE);
    }

    private void refusedRestore() {
        refused("restore(-1)", x -> x.restore(-1), BAD_VALUE);
        refused("restore(2)", x -> x.restore(2), BAD_VALUE);
        refused("nothing saved", x -> x.restore(0), NOT_POSSIBLE);
    }
}
