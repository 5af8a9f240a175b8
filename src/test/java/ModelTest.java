/** Long runs of calls, drawn from fixed seeds, answered by VillageCinema as by PlainCinema. */
public final class ModelTest {
    private static final int RUNS = 600, CALLS = 512;
    private static final int[] EXTREMES = {-1, -6, Integer.MIN_VALUE, Integer.MAX_VALUE, 7, 8, 35, 70, 1000};

    private final Checks checks = new Checks("ModelTest");
    private long seed;
    private int oddness;
    private VillageCinema cinema;
    private PlainCinema plain;

    private ModelTest() {
    }

    public static void main(String[] arguments) {
        ModelTest test = new ModelTest();
        for (int run = 0; run < RUNS; run++) {
            test.runOnce(run);
        }
        test.checks.end();
    }

    /** Some runs are tame, so that the hall fills; some ask for odd values again and again. */
    private void runOnce(int run) {
        seed = run * 7919L + 17;
        oddness = run % 3 == 0 ? 15 : 200;
        cinema = new VillageCinema();
        plain = new PlainCinema();
        for (int call = 0; call < CALLS; call++) {
            int kind = draw(0, 99);
            if (kind < 50) {
                change(call < 30 ? draw(0, 60) : draw(10, 110), run + "/" + call);
            } else if (kind < 92) {
                ask(run + "/" + call);
            } else {
                write(run + "/" + call);
            }
        }
    }

    private int draw(int least, int most) {
        seed = seed * 6364136223846793005L + 1442695040888963407L;
        return least + (int) ((seed >>> 33) % (most - least + 1));
    }

    /** Mostly a value in a range; now and then one beside it, or far from it. */
    private int odd(int least, int most) {
        int kind = draw(0, oddness);
        if (kind == 0) {
            return EXTREMES[draw(0, EXTREMES.length - 1)];
        }
        if (kind == 1) {
            return draw(0, 1) == 0 ? least - 1 : most + 1;
        }
        if (kind == 2) {
            return draw(0, 1) == 0 ? least : most;
        }
        return draw(least, most);
    }

    private int film() {
        int films = plain.count(0);
        return draw(0, 12) == 0 ? odd(0, 7) : odd(0, Math.max(0, films - 1));
    }

    private int day() {
        return odd(0, 34);
    }

    private int part() {
        return odd(0, 1);
    }

    private void change(int kind, String name) {
        if (kind < 4) {
            changeSetting(name);
        } else if (kind < 15) {
            int d = odd(0, 3), crowd = odd(1, draw(0, 1) == 0 ? 999 : 60), minimum = odd(0, draw(0, 2) * 250);
            int share = odd(20, 90), first = odd(0, draw(0, 1) * 34);
            checks.due(name + " film", cinema.film(d, crowd, minimum, share, first),
                plain.film(d, crowd, minimum, share, first));
        } else if (kind < 75) {
            int film = film(), day = day(), part = part();
            checks.due(name + " show", cinema.show(film, day, part), plain.show(film, day, part));
        } else if (kind < 82) {
            int day = day(), part = part();
            checks.due(name + " drop", cinema.drop(day, part), plain.drop(day, part));
        } else if (kind < 92) {
            int day = day(), part = part(), other = day(), otherPart = part();
            checks.due(name + " exchange", cinema.exchange(day, part, other, otherPart),
                plain.exchange(day, part, other, otherPart));
        } else if (kind < 97) {
            int day = day(), rent = draw(0, 1) == 0 ? 0 : odd(0, 999);
            checks.due(name + " let", cinema.let(day, rent), plain.let(day, rent));
        } else if (kind < 105) {
            checks.due(name + " undo", cinema.undo(), plain.undo());
        } else {
            int slot = odd(0, 1);
            boolean saves = draw(0, 1) == 0;
            checks.due(name + " slot", saves ? cinema.save(slot) : cinema.restore(slot),
                saves ? plain.save(slot) : plain.restore(slot));
        }
    }

    private void changeSetting(String name) {
        int[][] ranges = {{10, 300}, {1, 20}, {0, 200}, {1, 100}, {1, 100}};
        int setting = odd(0, 4);
        int[] range = setting < 0 || setting > 4 ? ranges[0] : ranges[setting];
        int value = odd(range[0], range[1]);
        checks.due(name + " set", cinema.set(setting, value), plain.set(setting, value));
    }

    private void ask(String name) {
        int film = film(), day = day(), part = part(), week = odd(0, 4), kind = draw(0, 10);
        int what = odd(0, new int[] {3, 10, 3, 4, 2, 0, 14, 0, 1, 2, 0}[kind]);
        int takings = odd(1, draw(0, 1) == 0 ? 5000 : 300);
        switch (kind) {
            case 0 -> checks.due(name + " at", cinema.at(day, part, what), plain.at(day, part, what));
            case 1 -> checks.due(name + " of", cinema.of(film, what), plain.of(film, what));
            case 2 -> checks.due(name + " inWeek", cinema.inWeek(film, week, what), plain.inWeek(film, week, what));
            case 3 -> checks.due(name + " week", cinema.week(week, what), plain.week(week, what));
            case 4 -> checks.due(name + " distributor", cinema.distributor(week, what), plain.distributor(week, what));
            case 5 -> checks.due(name + " rent", cinema.rent(day), plain.rent(day));
            case 6 -> checks.due(name + " count", cinema.count(what), plain.count(what));
            case 7 -> checks.due(name + " ifShown", cinema.ifShown(film, day, part), plain.ifShown(film, day, part));
            case 8 -> checks.due(name + " bestFilm", cinema.bestFilm(day, part, what), plain.bestFilm(day, part, what));
            case 9 -> checks.due(name + " worstShow", cinema.worstShow(what), plain.worstShow(what));
            default -> checks.due(name + " priceFor", cinema.priceFor(day, part, takings),
                plain.priceFor(day, part, takings));
        }
    }

    private void write(String name) {
        int kind = draw(0, 9);
        if (kind < 6) {
            long packed = Checks.packed(someText());
            if (draw(0, oddness) == 0) {
                packed ^= 1L << draw(0, 63);
            }
            checks.due(name + " put", cinema.put(packed), plain.put(packed));
        } else if (kind < 7) {
            checks.due(name + " fault", cinema.fault(), plain.fault());
        } else if (kind < 8) {
            checks.due(name + " wipe", cinema.wipe(), plain.wipe());
        } else {
            checks.due(name + " carryOut", cinema.carryOut(), plain.carryOut());
        }
    }

    private String someText() {
        String show = draw(0, 7) + (draw(0, 1) == 0 ? "a" : "e") + draw(0, draw(0, 6) == 0 ? 39 : 34);
        if (draw(0, 3) == 0) {
            show = show.substring(0, draw(1, show.length()));
        }
        return plain.count(13) > 0 && draw(0, 9) > 0 ? "," + show : show;
    }
}
