import java.util.ArrayDeque;
import java.util.ArrayList;
import java.util.Deque;
import java.util.List;
import java.util.regex.Matcher;
import java.util.regex.Pattern;

/**
 * The document written a second time, with the Java library and without a thought of cost, so that
 * ModelTest can compare: every question is answered from a full account of a whole hall, and every
 * what-if from a copy of the hall in which it is done.
 */
final class PlainCinema {
    private static final int NO_SUCH = -1, BAD_VALUE = -2, BAD_TEXT = -3, TOO_MANY = -4, NOT_POSSIBLE = -5, NONE = -6;
    private static final int MILLION = 1000000;
    private static final String SHOW = "[0-7][ae](?:[12][0-9]|3[0-4]|[0-9])";
    private static final Pattern TEXT = Pattern.compile(SHOW + "(?:," + SHOW + ")*");

    private record Film(int distributor, int crowd, int minimum, int share, int firstDay) {
    }

    /** What undo and the slots keep. */
    private static final class Hall {
        final int[] settings = {80, 6, 30, 40, 20};
        final List<Film> films = new ArrayList<>();
        final Integer[][] shows = new Integer[35][2];
        final int[] rents = new int[35];

        Hall copy() {
            Hall copy = new Hall();
            System.arraycopy(settings, 0, copy.settings, 0, 5);
            System.arraycopy(rents, 0, copy.rents, 0, 35);
            copy.films.addAll(films);
            for (int day = 0; day < 35; day++) {
                copy.shows[day] = shows[day].clone();
            }
            return copy;
        }
    }

    /** All the people and all the money of a hall, found in one go through the days. */
    private static final class Account {
        final int[][] people = new int[35][2];
        final int[][] behind = new int[35][2];
        final int[] left = new int[8];
        final int[][] shows = new int[8][5];
        final int[][] crowds = new int[8][5];
        final int[][] takings = new int[8][5];
        final int[][] share = new int[8][5];
        final int[][] due = new int[8][5];
        final int[][] extra = new int[8][5];
        int full;

        Account(Hall hall) {
            for (int film = 0; film < hall.films.size(); film++) {
                left[film] = hall.films.get(film).crowd();
            }
            for (int day = 0; day < 35; day++) {
                if (day % 7 == 0) {
                    fade(hall, day / 7);
                }
                for (int part = 0; part < 2; part++) {
                    if (hall.shows[day][part] != null) {
                        hold(hall, day, part);
                    }
                }
            }
            for (int film = 0; film < hall.films.size(); film++) {
                settle(hall.films.get(film), film);
            }
        }

        private void fade(Hall hall, int week) {
            for (int film = 0; film < hall.films.size(); film++) {
                if (hall.films.get(film).firstDay() / 7 < week) {
                    left[film] -= (int) Math.floor(left[film] / 4.0);
                }
            }
        }

        private void hold(Hall hall, int day, int part) {
            int film = hall.shows[day][part];
            int hundredths = hall.settings[part == 1 ? 3 : 4];
            int come = (int) ((long) left[film] * hundredths / 100);
            if (come >= hall.settings[0]) {
                come = hall.settings[0];
                full++;
            }
            left[film] -= come;
            people[day][part] = come;
            behind[day][part] = left[film];
            shows[film][day / 7]++;
            crowds[film][day / 7] += come;
            takings[film][day / 7] += come * hall.settings[1];
        }

        private void settle(Film film, int number) {
            int first = 0;
            while (first < 5 && shows[number][first] == 0) {
                share[number][first] = NONE;
                first++;
            }
            for (int week = first; week < 5; week++) {
                share[number][week] = Math.max(20, film.share() - 10 * (week - first));
                if (shows[number][week] > 0) {
                    int ofTakings = takings[number][week] * share[number][week] / 100;
                    due[number][week] = ofTakings > film.minimum() ? ofTakings : film.minimum();
                    extra[number][week] = due[number][week] - ofTakings;
                }
            }
        }

        static int sum(int[][] numbers, int film, int week) {
            int sum = 0;
            for (int i = 0; i < 8; i++) {
                for (int j = 0; j < 5; j++) {
                    sum += (film < 0 || film == i) && (week < 0 || week == j) ? numbers[i][j] : 0;
                }
            }
            return sum;
        }
    }

    private Hall hall = new Hall();
    private final Deque<Hall> history = new ArrayDeque<>();
    private final Hall[] slots = new Hall[2];
    private String pad = "";

    private static boolean out(int value, int least, int most) {
        return value < least || value > most;
    }

    private static boolean outside(int day, int part) {
        return out(day, 0, 34) || out(part, 0, 1);
    }

    private void record() {
        history.addLast(hall.copy());
        if (history.size() > 6) {
            history.removeFirst();
        }
    }

    private static int left(Hall hall, int week) {
        Account account = new Account(hall);
        int rents = 0;
        for (int day = 0; day < 35; day++) {
            rents += week < 0 || day / 7 == week ? hall.rents[day] : 0;
        }
        return Account.sum(account.takings, -1, week) - Account.sum(account.due, -1, week)
            - hall.settings[2] * Account.sum(account.shows, -1, week) + rents;
    }

    private static int number(Integer film) {
        return film == null ? NONE : film;
    }

    private static int countShows(Hall hall) {
        return Account.sum(new Account(hall).shows, -1, -1);
    }

    int set(int setting, int value) {
        int[][] ranges = {{10, 300}, {1, 20}, {0, 200}, {1, 100}, {1, 100}};
        if (out(setting, 0, 4) || out(value, ranges[setting][0], ranges[setting][1])) {
            return BAD_VALUE;
        }
        record();
        int before = hall.settings[setting];
        hall.settings[setting] = value;
        return before;
    }

    int film(int distributor, int crowd, int minimum, int share, int firstDay) {
        if (out(distributor, 0, 3) || out(crowd, 1, 999) || out(minimum, 0, 500) || out(share, 20, 90)
            || out(firstDay, 0, 34)) {
            return BAD_VALUE;
        }
        if (hall.films.size() == 8) {
            return TOO_MANY;
        }
        record();
        hall.films.add(new Film(distributor, crowd, minimum, share, firstDay));
        return hall.films.size() - 1;
    }

    private int errorOf(int film, int day, int part) {
        if (out(film, 0, hall.films.size() - 1)) {
            return NO_SUCH;
        }
        if (outside(day, part)) {
            return BAD_VALUE;
        }
        return hall.rents[day] > 0 || day < hall.films.get(film).firstDay() ? NOT_POSSIBLE : 0;
    }

    int show(int film, int day, int part) {
        if (errorOf(film, day, part) != 0) {
            return errorOf(film, day, part);
        }
        record();
        int before = number(hall.shows[day][part]);
        hall.shows[day][part] = film;
        return before;
    }

    int drop(int day, int part) {
        if (outside(day, part)) {
            return BAD_VALUE;
        }
        if (hall.shows[day][part] == null) {
            return NOT_POSSIBLE;
        }
        record();
        int before = hall.shows[day][part];
        hall.shows[day][part] = null;
        return before;
    }

    int exchange(int day, int part, int otherDay, int otherPart) {
        if (outside(day, part) || outside(otherDay, otherPart)) {
            return BAD_VALUE;
        }
        Integer one = hall.shows[day][part];
        Integer other = hall.shows[otherDay][otherPart];
        if (hall.rents[day] > 0 || hall.rents[otherDay] > 0) {
            return NOT_POSSIBLE;
        }
        if (one != null && hall.films.get(one).firstDay() > otherDay
            || other != null && hall.films.get(other).firstDay() > day) {
            return NOT_POSSIBLE;
        }
        record();
        int before = left(hall, -1);
        hall.shows[day][part] = other;
        hall.shows[otherDay][otherPart] = one;
        return left(hall, -1) - before + MILLION;
    }

    int let(int day, int rent) {
        if (out(day, 0, 34) || out(rent, 0, 999)) {
            return BAD_VALUE;
        }
        record();
        int before = countShows(hall);
        hall.rents[day] = rent;
        if (rent > 0) {
            hall.shows[day] = new Integer[2];
        }
        return before - countShows(hall);
    }

    int carryOut() {
        if (!TEXT.matcher(pad).matches()) {
            return BAD_TEXT;
        }
        record();
        int done = 0;
        for (String show : pad.split(",")) {
            int film = Integer.parseInt(show.substring(0, 1));
            int day = Integer.parseInt(show.substring(2));
            int part = "ae".indexOf(show.charAt(1));
            if (errorOf(film, day, part) != 0) {
                break;
            }
            hall.shows[day][part] = film;
            done++;
        }
        pad = "";
        return done;
    }

    int at(int day, int part, int what) {
        if (outside(day, part) || out(what, 0, 3)) {
            return BAD_VALUE;
        }
        Account account = new Account(hall);
        boolean shown = hall.shows[day][part] != null;
        int[] answers = {number(hall.shows[day][part]), account.people[day][part],
            account.people[day][part] * hall.settings[1], shown ? account.behind[day][part] : NONE};
        return answers[what];
    }

    int of(int film, int what) {
        if (out(film, 0, hall.films.size() - 1)) {
            return NO_SUCH;
        }
        if (out(what, 0, 10)) {
            return BAD_VALUE;
        }
        Film it = hall.films.get(film);
        Account account = new Account(hall);
        int first = NONE;
        for (int day = 34; day >= 0; day--) {
            boolean shown = number(hall.shows[day][0]) == film || number(hall.shows[day][1]) == film;
            first = shown ? day : first;
        }
        int[] answers = {it.distributor(), it.crowd(), it.minimum(), it.share(), it.firstDay(),
            Account.sum(account.shows, film, -1), Account.sum(account.crowds, film, -1),
            Account.sum(account.takings, film, -1), Account.sum(account.due, film, -1), account.left[film], first};
        return answers[what];
    }

    int inWeek(int film, int week, int what) {
        if (out(film, 0, hall.films.size() - 1)) {
            return NO_SUCH;
        }
        if (out(week, 0, 4) || out(what, 0, 3)) {
            return BAD_VALUE;
        }
        Account account = new Account(hall);
        int[][][] answers = {account.takings, account.share, account.due, account.extra};
        return answers[what][film][week];
    }

    int week(int week, int what) {
        if (out(week, 0, 4) || out(what, 0, 4)) {
            return BAD_VALUE;
        }
        Account account = new Account(hall);
        int[][][] answers = {account.shows, account.crowds, account.takings, account.due};
        return what == 4 ? left(hall, week) + MILLION : Account.sum(answers[what], -1, week);
    }

    int distributor(int distributor, int what) {
        if (out(distributor, 0, 3) || out(what, 0, 2)) {
            return BAD_VALUE;
        }
        Account account = new Account(hall);
        int[] answers = new int[3];
        for (int film = 0; film < hall.films.size(); film++) {
            if (hall.films.get(film).distributor() == distributor) {
                answers[0]++;
                answers[1] += Account.sum(account.shows, film, -1);
                answers[2] += Account.sum(account.due, film, -1);
            }
        }
        return answers[what];
    }

    int rent(int day) {
        return out(day, 0, 34) ? BAD_VALUE : hall.rents[day];
    }

    int count(int what) {
        if (out(what, 0, 14)) {
            return BAD_VALUE;
        }
        Account account = new Account(hall);
        int rents = 0;
        for (int rent : hall.rents) {
            rents += rent;
        }
        int[] answers = {hall.films.size(), countShows(hall), Account.sum(account.crowds, -1, -1),
            Account.sum(account.takings, -1, -1), Account.sum(account.due, -1, -1), left(hall, -1) + MILLION, rents,
            account.full, hall.settings[0], hall.settings[1], hall.settings[2], hall.settings[3], hall.settings[4],
            pad.length(), history.size()};
        return answers[what];
    }

    private int more(Integer film, int day, int part) {
        Hall other = hall.copy();
        other.shows[day][part] = film;
        return left(other, -1) - left(hall, -1) + MILLION;
    }

    int ifShown(int film, int day, int part) {
        return errorOf(film, day, part) != 0 ? errorOf(film, day, part) : more(film, day, part);
    }

    int bestFilm(int day, int part, int what) {
        if (outside(day, part) || out(what, 0, 1)) {
            return BAD_VALUE;
        }
        if (hall.rents[day] > 0) {
            return NOT_POSSIBLE;
        }
        int[] best = {NONE, NONE};
        for (int film = hall.films.size() - 1; film >= 0; film--) {
            if (errorOf(film, day, part) == 0 && more(film, day, part) >= best[1]) {
                best = new int[] {film, more(film, day, part)};
            }
        }
        return best[what];
    }

    int worstShow(int what) {
        if (out(what, 0, 2)) {
            return BAD_VALUE;
        }
        int[] worst = {NONE, NONE, NONE};
        for (int day = 34; day >= 0; day--) {
            for (int part = 1; part >= 0; part--) {
                if (hall.shows[day][part] != null && more(null, day, part) >= worst[2]) {
                    worst = new int[] {day, part, more(null, day, part)};
                }
            }
        }
        return worst[what];
    }

    int priceFor(int day, int part, int takings) {
        if (outside(day, part) || out(takings, 1, 5000)) {
            return BAD_VALUE;
        }
        if (hall.shows[day][part] == null) {
            return NOT_POSSIBLE;
        }
        int people = new Account(hall).people[day][part];
        int price = people == 0 ? 21 : (takings + people - 1) / people;
        return price > 20 ? NONE : price;
    }

    int put(long characters) {
        String text = "";
        for (int shift = 56; shift >= 0; shift -= 8) {
            int code = (int) (characters >>> shift) & 255;
            if (code != 0 || !text.isEmpty()) {
                text += (char) code;
            }
        }
        if (!text.matches("[!-~]+")) {
            return BAD_VALUE;
        }
        if (pad.length() + text.length() > 60) {
            return TOO_MANY;
        }
        pad += text;
        return pad.length();
    }

    int wipe() {
        int length = pad.length();
        pad = "";
        return length;
    }

    int fault() {
        if (TEXT.matcher(pad).matches()) {
            return NONE;
        }
        for (int length = 1; length <= pad.length(); length++) {
            Matcher matcher = TEXT.matcher(pad.substring(0, length));
            if (!matcher.matches() && !matcher.hitEnd()) {
                return length - 1;
            }
        }
        return pad.length();
    }

    int undo() {
        if (history.isEmpty()) {
            return NOT_POSSIBLE;
        }
        hall = history.removeLast();
        return history.size();
    }

    int save(int slot) {
        if (out(slot, 0, 1)) {
            return BAD_VALUE;
        }
        slots[slot] = hall.copy();
        return countShows(hall);
    }

    int restore(int slot) {
        if (out(slot, 0, 1)) {
            return BAD_VALUE;
        }
        if (slots[slot] == null) {
            return NOT_POSSIBLE;
        }
        record();
        hall = slots[slot].copy();
        return countShows(hall);
    }
}
