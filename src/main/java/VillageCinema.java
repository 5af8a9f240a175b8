/** A cinema in a village hall: its films, shows, people and money, as ../shared/DOC.md promises them. */
public final class VillageCinema {
    public static final int NO_SUCH = -1, BAD_VALUE = -2, BAD_TEXT = -3, TOO_MANY = -4, NOT_POSSIBLE = -5, NONE = -6;
    public static final int SEATS = 0, PRICE = 1, COST = 2, EVENING = 3, AFTERNOON = 4;

    private static final int SETTINGS = 5;
    private static final int[] LEAST_SETTING = {10, 1, 0, 1, 1};
    private static final int[] MOST_SETTING = {300, 20, 200, 100, 100};
    private static final int[] FIRST_SETTING = {80, 6, 30, 40, 20};

    private static final int FILMS = 8, DISTRIBUTORS = 4;
    private static final int WEEKS = 5, DAYS_A_WEEK = 7, DAYS = WEEKS * DAYS_A_WEEK;
    // A place is a part of a day; places are numbered in the order in which the shows are held.
    private static final int PARTS = 2, PLACES_A_WEEK = DAYS_A_WEEK * PARTS, PLACES = DAYS * PARTS;

    // The facts of a film, numbered as of() numbers them.
    private static final int DISTRIBUTOR = 0, CROWD = 1, MINIMUM = 2, SHARE = 3, FIRST_DAY = 4, FACTS = 5;
    // The sums of a film in a week; the first four are numbered as of() and week() number them.
    private static final int SHOWS = 0, PEOPLE = 1, TAKINGS = 2, DUE = 3, LEFT = 4, SUMS = 5;

    private static final int LEAST_SHARE = 20, SHARE_FALL = 10;
    private static final int MOST_RENT = 999, MOST_ASKED_TAKINGS = 5000;
    private static final int SLOTS = 2;
    // Added to money that can be below 0.
    private static final int ABOVE_ZERO = 1000000;
    private static final int NO_ERROR = 0;

    private final Hall hall = new Hall();
    private final FilmRun run = new FilmRun();
    private final Pad pad = new Pad();
    private final History history = new History();
    private final int[][] slots = new int[SLOTS][Hall.LENGTH];
    private final boolean[] saved = new boolean[SLOTS];

    public VillageCinema() {
    }

    // ---- changes

    public int set(int setting, int value) {
        if (!isWithin(setting, 0, SETTINGS - 1)) {
            return BAD_VALUE;
        }
        if (!isWithin(value, LEAST_SETTING[setting], MOST_SETTING[setting])) {
            return BAD_VALUE;
        }
        history.record(hall);
        return hall.changeSetting(setting, value);
    }

    public int film(int distributor, int crowd, int minimum, int share, int firstDay) {
        if (!isWithin(distributor, 0, DISTRIBUTORS - 1) || !isWithin(crowd, 1, 999)) {
            return BAD_VALUE;
        }
        if (!isWithin(minimum, 0, 500) || !isWithin(share, LEAST_SHARE, 90) || !isDay(firstDay)) {
            return BAD_VALUE;
        }
        if (hall.films() >= FILMS) {
            return TOO_MANY;
        }
        history.record(hall);
        return hall.addFilm(distributor, crowd, minimum, share, firstDay);
    }

    public int show(int film, int day, int part) {
        int error = errorOfShow(film, day, part);
        if (error != NO_ERROR) {
            return error;
        }
        history.record(hall);
        return hall.replaceShow(placeOf(day, part), film);
    }

    public int drop(int day, int part) {
        if (!isPlace(day, part)) {
            return BAD_VALUE;
        }
        int place = placeOf(day, part);
        if (hall.showAt(place) == NONE) {
            return NOT_POSSIBLE;
        }
        history.record(hall);
        return hall.replaceShow(place, NONE);
    }

    public int exchange(int day, int part, int otherDay, int otherPart) {
        if (!isPlace(day, part) || !isPlace(otherDay, otherPart)) {
            return BAD_VALUE;
        }
        int place = placeOf(day, part);
        int otherPlace = placeOf(otherDay, otherPart);
        if (!hall.canHold(otherDay, hall.showAt(place)) || !hall.canHold(day, hall.showAt(otherPlace))) {
            return NOT_POSSIBLE;
        }
        int before = sumOfFilms(LEFT);
        history.record(hall);
        int moved = hall.replaceShow(place, hall.showAt(otherPlace));
        hall.replaceShow(otherPlace, moved);
        return sumOfFilms(LEFT) - before + ABOVE_ZERO;
    }

    public int let(int day, int rent) {
        if (!isDay(day) || !isWithin(rent, 0, MOST_RENT)) {
            return BAD_VALUE;
        }
        history.record(hall);
        hall.changeRent(day, rent);
        return rent == 0 ? 0 : dropShowsOfDay(day);
    }

    public int carryOut() {
        if (pad.firstFault() != NONE) {
            return BAD_TEXT;
        }
        history.record(hall);
        int done = putInShowsOfPad();
        pad.empty();
        return done;
    }

    // ---- what there is; nothing changes

    public int at(int day, int part, int what) {
        if (!isPlace(day, part) || !isWithin(what, 0, 3)) {
            return BAD_VALUE;
        }
        int place = placeOf(day, part);
        int film = hall.showAt(place);
        if (!hall.hasFilm(film)) {
            return what == 1 || what == 2 ? 0 : NONE;
        }
        run.follow(hall, film);
        switch (what) {
            case 0:
                return film;
            case 1:
                return run.peopleAt(place);
            case 2:
                return run.peopleAt(place) * hall.setting(PRICE);
            default:
                return run.leftBehind(place);
        }
    }

    public int of(int film, int what) {
        if (!hall.hasFilm(film)) {
            return NO_SUCH;
        }
        if (!isWithin(what, 0, 10)) {
            return BAD_VALUE;
        }
        if (what < FACTS) {
            return hall.fact(film, what);
        }
        if (what == 10) {
            return hall.firstDayShown(film);
        }
        run.follow(hall, film);
        return what == 9 ? run.leftAtEnd() : run.sum(what - FACTS);
    }

    public int inWeek(int film, int week, int what) {
        if (!hall.hasFilm(film)) {
            return NO_SUCH;
        }
        if (!isWeek(week) || !isWithin(what, 0, 3)) {
            return BAD_VALUE;
        }
        run.follow(hall, film);
        switch (what) {
            case 0:
                return run.sumOfWeek(week, TAKINGS);
            case 1:
                return run.shareIn(week);
            case 2:
                return run.sumOfWeek(week, DUE);
            default:
                return run.dueAboveShare(week);
        }
    }

    public int week(int week, int what) {
        if (!isWeek(week) || !isWithin(what, 0, SUMS - 1)) {
            return BAD_VALUE;
        }
        int sum = sumOfFilmsInWeek(week, what);
        if (what != LEFT) {
            return sum;
        }
        int firstDay = week * DAYS_A_WEEK;
        return sum + hall.rentsOf(firstDay, firstDay + DAYS_A_WEEK) + ABOVE_ZERO;
    }

    public int distributor(int distributor, int what) {
        if (!isWithin(distributor, 0, DISTRIBUTORS - 1) || !isWithin(what, 0, 2)) {
            return BAD_VALUE;
        }
        int sum = 0;
        for (int film = 0; film < hall.films(); film++) {
            if (hall.fact(film, DISTRIBUTOR) == distributor) {
                sum += what == 0 ? 1 : sumOfFilm(film, what == 1 ? SHOWS : DUE);
            }
        }
        return sum;
    }

    public int rent(int day) {
        return isDay(day) ? hall.rentOf(day) : BAD_VALUE;
    }

    public int count(int what) {
        if (!isWithin(what, 0, 14)) {
            return BAD_VALUE;
        }
        if (isWithin(what, 8, 12)) {
            return hall.setting(what - 8);
        }
        switch (what) {
            case 0:
                return hall.films();
            case 5:
                return sumOfFilms(LEFT) + hall.rentsOf(0, DAYS) + ABOVE_ZERO;
            case 6:
                return hall.rentsOf(0, DAYS);
            case 7:
                return fullShows();
            case 13:
                return pad.length();
            case 14:
                return history.size();
            default:
                return sumOfFilms(what - 1);
        }
    }

    // ---- what if; nothing changes

    public int ifShown(int film, int day, int part) {
        int error = errorOfShow(film, day, part);
        if (error != NO_ERROR) {
            return error;
        }
        return gainWith(placeOf(day, part), film) + ABOVE_ZERO;
    }

    public int bestFilm(int day, int part, int what) {
        if (!isPlace(day, part) || !isWithin(what, 0, 1)) {
            return BAD_VALUE;
        }
        if (hall.rentOf(day) != 0) {
            return NOT_POSSIBLE;
        }
        int best = NONE;
        int most = 0;
        for (int film = 0; film < hall.films(); film++) {
            if (hall.canHold(day, film)) {
                int gain = gainWith(placeOf(day, part), film);
                if (best == NONE || gain > most) {
                    best = film;
                    most = gain;
                }
            }
        }
        if (best == NONE) {
            return NONE;
        }
        return what == 0 ? best : most + ABOVE_ZERO;
    }

    public int worstShow(int what) {
        if (!isWithin(what, 0, 2)) {
            return BAD_VALUE;
        }
        int worst = NONE;
        int most = 0;
        for (int place = 0; place < PLACES; place++) {
            if (hall.showAt(place) != NONE) {
                int gain = gainWith(place, NONE);
                if (worst == NONE || gain > most) {
                    worst = place;
                    most = gain;
                }
            }
        }
        if (worst == NONE) {
            return NONE;
        }
        switch (what) {
            case 0:
                return worst / PARTS;
            case 1:
                return worst % PARTS;
            default:
                return most + ABOVE_ZERO;
        }
    }

    public int priceFor(int day, int part, int takings) {
        if (!isPlace(day, part) || !isWithin(takings, 1, MOST_ASKED_TAKINGS)) {
            return BAD_VALUE;
        }
        int place = placeOf(day, part);
        int film = hall.showAt(place);
        if (!hall.hasFilm(film)) {
            return NOT_POSSIBLE;
        }
        run.follow(hall, film);
        for (int price = LEAST_SETTING[PRICE]; price <= MOST_SETTING[PRICE]; price++) {
            if (run.peopleAt(place) * price >= takings) {
                return price;
            }
        }
        return NONE;
    }

    // ---- texts

    public int put(long characters) {
        return pad.append(characters);
    }

    public int wipe() {
        int before = pad.length();
        pad.empty();
        return before;
    }

    public int fault() {
        return pad.firstFault();
    }

    // ---- undo, saving

    public int undo() {
        if (history.size() == 0) {
            return NOT_POSSIBLE;
        }
        history.takeBack(hall);
        return history.size();
    }

    public int save(int slot) {
        if (!isWithin(slot, 0, SLOTS - 1)) {
            return BAD_VALUE;
        }
        hall.copyTo(slots[slot]);
        saved[slot] = true;
        return hall.shows();
    }

    public int restore(int slot) {
        if (!isWithin(slot, 0, SLOTS - 1)) {
            return BAD_VALUE;
        }
        if (!saved[slot]) {
            return NOT_POSSIBLE;
        }
        history.record(hall);
        hall.copyFrom(slots[slot]);
        return hall.shows();
    }

    // ---- helpers

    private static boolean isWithin(int value, int least, int most) {
        return value >= least && value <= most;
    }

    private static boolean isDay(int day) {
        return isWithin(day, 0, DAYS - 1);
    }

    private static boolean isWeek(int week) {
        return isWithin(week, 0, WEEKS - 1);
    }

    private static boolean isPlace(int day, int part) {
        return isDay(day) && isWithin(part, 0, PARTS - 1);
    }

    private static int placeOf(int day, int part) {
        return day * PARTS + part;
    }

    private int errorOfShow(int film, int day, int part) {
        if (!hall.hasFilm(film)) {
            return NO_SUCH;
        }
        if (!isPlace(day, part)) {
            return BAD_VALUE;
        }
        return hall.canHold(day, film) ? NO_ERROR : NOT_POSSIBLE;
    }

    private int dropShowsOfDay(int day) {
        int dropped = 0;
        for (int part = 0; part < PARTS; part++) {
            if (hall.replaceShow(placeOf(day, part), NONE) != NONE) {
                dropped++;
            }
        }
        return dropped;
    }

    /** Puts in the shows of a pad without a fault, up to the first that can't be; answers how many. */
    private int putInShowsOfPad() {
        int done = 0;
        int from = 0;
        for (int end = 0; end <= pad.length(); end++) {
            if (pad.isEndOfShow(end)) {
                int film = pad.filmAt(from);
                int part = pad.partAt(from + 1);
                int day = pad.dayAt(from + 2, end);
                if (errorOfShow(film, day, part) != NO_ERROR) {
                    return done;
                }
                hall.replaceShow(placeOf(day, part), film);
                done++;
                from = end + 1;
            }
        }
        return done;
    }

    private int sumOfFilm(int film, int what) {
        run.follow(hall, film);
        return run.sum(what);
    }

    private int sumOfFilms(int what) {
        int sum = 0;
        for (int film = 0; film < hall.films(); film++) {
            sum += sumOfFilm(film, what);
        }
        return sum;
    }

    private int sumOfFilmsInWeek(int week, int what) {
        int sum = 0;
        for (int film = 0; film < hall.films(); film++) {
            run.follow(hall, film);
            sum += run.sumOfWeek(week, what);
        }
        return sum;
    }

    private int fullShows() {
        int sum = 0;
        for (int film = 0; film < hall.films(); film++) {
            run.follow(hall, film);
            sum += run.fullShows();
        }
        return sum;
    }

    private int leftOfFilm(int film) {
        if (!hall.hasFilm(film)) {
            return 0;
        }
        run.follow(hall, film);
        return run.sum(LEFT);
    }

    /**
     * How much more would be left with this film (or NONE) at a place. Films don't take people from
     * one another, so that the two films concerned are all that has to be looked at; if they are the
     * same one, it stands twice on both sides.
     */
    private int gainWith(int place, int film) {
        int there = hall.showAt(place);
        int before = leftOfFilm(there) + leftOfFilm(film);
        hall.replaceShow(place, film);
        int after = leftOfFilm(there) + leftOfFilm(film);
        hall.replaceShow(place, there);
        return after - before;
    }

    /** All that undo, save and restore keep, in one row of numbers, so that it is copied at once. */
    private static final class Hall {
        static final int FILMS_AT = SETTINGS;
        static final int FACTS_FROM = FILMS_AT + 1;
        static final int SHOWS_FROM = FACTS_FROM + FILMS * FACTS;
        static final int RENTS_FROM = SHOWS_FROM + PLACES;
        static final int LENGTH = RENTS_FROM + DAYS;

        private final int[] row = new int[LENGTH];

        Hall() {
            System.arraycopy(FIRST_SETTING, 0, row, 0, SETTINGS);
            for (int place = 0; place < PLACES; place++) {
                row[SHOWS_FROM + place] = NONE;
            }
        }

        void copyTo(int[] other) {
            System.arraycopy(row, 0, other, 0, LENGTH);
        }

        void copyFrom(int[] other) {
            System.arraycopy(other, 0, row, 0, LENGTH);
        }

        int setting(int setting) {
            return row[setting];
        }

        int changeSetting(int setting, int value) {
            int before = row[setting];
            row[setting] = value;
            return before;
        }

        int films() {
            return row[FILMS_AT];
        }

        boolean hasFilm(int film) {
            return film >= 0 && film < films();
        }

        int addFilm(int distributor, int crowd, int minimum, int share, int firstDay) {
            int film = films();
            int from = FACTS_FROM + film * FACTS;
            row[from + DISTRIBUTOR] = distributor;
            row[from + CROWD] = crowd;
            row[from + MINIMUM] = minimum;
            row[from + SHARE] = share;
            row[from + FIRST_DAY] = firstDay;
            row[FILMS_AT] = film + 1;
            return film;
        }

        int fact(int film, int what) {
            return row[FACTS_FROM + film * FACTS + what];
        }

        /** The film at a place, or NONE. */
        int showAt(int place) {
            return row[SHOWS_FROM + place];
        }

        int replaceShow(int place, int film) {
            int before = row[SHOWS_FROM + place];
            row[SHOWS_FROM + place] = film;
            return before;
        }

        /** Whether a show of this film (or none, with NONE) may be put on a day. */
        boolean canHold(int day, int film) {
            if (rentOf(day) != 0) {
                return false;
            }
            return !hasFilm(film) || fact(film, FIRST_DAY) <= day;
        }

        int shows() {
            int shows = 0;
            for (int place = 0; place < PLACES; place++) {
                if (showAt(place) != NONE) {
                    shows++;
                }
            }
            return shows;
        }

        int firstDayShown(int film) {
            for (int place = 0; place < PLACES; place++) {
                if (showAt(place) == film) {
                    return place / PARTS;
                }
            }
            return NONE;
        }

        int rentOf(int day) {
            return row[RENTS_FROM + day];
        }

        void changeRent(int day, int rent) {
            row[RENTS_FROM + day] = rent;
        }

        int rentsOf(int firstDay, int endDay) {
            int sum = 0;
            for (int day = firstDay; day < endDay; day++) {
                sum += rentOf(day);
            }
            return sum;
        }
    }

    /** One film's way through its shows: follow() finds it, and the others tell of the film followed last. */
    private static final class FilmRun {
        // Only the places with a show of the film followed last hold numbers of it.
        private final int[] peopleAt = new int[PLACES];
        private final int[] leftBehind = new int[PLACES];
        private final int[] sums = new int[WEEKS * SUMS];
        private final int[] shares = new int[WEEKS];
        private int fullShows;
        private int leftAtEnd;

        void follow(Hall hall, int film) {
            int left = hall.fact(film, CROWD);
            int firstWeek = hall.fact(film, FIRST_DAY) / DAYS_A_WEEK;
            int share = NONE;
            fullShows = 0;
            for (int week = 0; week < WEEKS; week++) {
                if (week > firstWeek) {
                    left -= left / 4;
                }
                left = followWeek(hall, film, week, left);
                share = nextShare(share, hall.fact(film, SHARE), sumOfWeek(week, SHOWS) > 0);
                shares[week] = share;
                reckonWeek(hall, week, hall.fact(film, MINIMUM));
            }
            leftAtEnd = left;
        }

        /** Finds the people of a film's shows in a week; answers how many are left behind it. */
        private int followWeek(Hall hall, int film, int week, int leftAtFirst) {
            int left = leftAtFirst;
            int shows = 0;
            int end = (week + 1) * PLACES_A_WEEK;
            for (int place = week * PLACES_A_WEEK; place < end; place++) {
                if (hall.showAt(place) == film) {
                    int people = peopleOf(hall, left, place % PARTS);
                    left -= people;
                    peopleAt[place] = people;
                    leftBehind[place] = left;
                    shows++;
                    if (people == hall.setting(SEATS)) {
                        fullShows++;
                    }
                }
            }
            sums[week * SUMS + SHOWS] = shows;
            sums[week * SUMS + PEOPLE] = leftAtFirst - left;
            return left;
        }

        private static int peopleOf(Hall hall, int left, int part) {
            int hundredths = hall.setting(part == 0 ? AFTERNOON : EVENING);
            return Math.min(left * hundredths / 100, hall.setting(SEATS));
        }

        private static int nextShare(int share, int firstShare, boolean shown) {
            if (share != NONE) {
                return Math.max(share - SHARE_FALL, LEAST_SHARE);
            }
            return shown ? firstShare : NONE;
        }

        private void reckonWeek(Hall hall, int week, int minimum) {
            int shows = sumOfWeek(week, SHOWS);
            int takings = sumOfWeek(week, PEOPLE) * hall.setting(PRICE);
            sums[week * SUMS + TAKINGS] = takings;
            int due = shows == 0 ? 0 : Math.max(minimum, shareOfTakings(week));
            sums[week * SUMS + DUE] = due;
            sums[week * SUMS + LEFT] = takings - due - shows * hall.setting(COST);
        }

        private int shareOfTakings(int week) {
            // Without a share there is no show, and so there are no takings.
            return shares[week] == NONE ? 0 : sumOfWeek(week, TAKINGS) * shares[week] / 100;
        }

        int dueAboveShare(int week) {
            return sumOfWeek(week, DUE) - shareOfTakings(week);
        }

        int sumOfWeek(int week, int what) {
            return sums[week * SUMS + what];
        }

        int sum(int what) {
            int sum = 0;
            for (int week = 0; week < WEEKS; week++) {
                sum += sumOfWeek(week, what);
            }
            return sum;
        }

        int shareIn(int week) {
            return shares[week];
        }

        int peopleAt(int place) {
            return peopleAt[place];
        }

        int leftBehind(int place) {
            return leftBehind[place];
        }

        int fullShows() {
            return fullShows;
        }

        int leftAtEnd() {
            return leftAtEnd;
        }
    }

    /** The text of a programme, and how it is read. */
    private static final class Pad {
        private static final int MOST_CHARACTERS = 60, CHARACTERS_A_CALL = 8;
        // What may stand at the next place of a text.
        private static final int FILM_NEXT = 0, PART_NEXT = 1, DAY_NEXT = 2;
        private static final int DIGIT_OR_COMMA_NEXT = 3, DIGIT_TO_4_OR_COMMA_NEXT = 4, COMMA_NEXT = 5, NOTHING = 6;

        private final char[] text = new char[MOST_CHARACTERS];
        private int length;

        int length() {
            return length;
        }

        void empty() {
            length = 0;
        }

        int append(long characters) {
            int more = charactersIn(characters);
            if (more == 0) {
                return BAD_VALUE;
            }
            if (length + more > MOST_CHARACTERS) {
                return TOO_MANY;
            }
            length += more;
            for (int i = 0; i < more; i++) {
                text[length - 1 - i] = (char) (characters >>> (8 * i) & 255);
            }
            return length;
        }

        /** How many characters a number holds, or 0 if it holds anything else. */
        private static int charactersIn(long characters) {
            int found = 0;
            long rest = characters;
            while (found < CHARACTERS_A_CALL && (rest & 255) != 0) {
                long code = rest & 255;
                if (code < 33 || code > 126) {
                    return 0;
                }
                rest >>>= 8;
                found++;
            }
            return rest == 0 ? found : 0;
        }

        int firstFault() {
            int next = FILM_NEXT;
            for (int i = 0; i < length; i++) {
                next = behind(next, text[i]);
                if (next == NOTHING) {
                    return i;
                }
            }
            return next >= DIGIT_OR_COMMA_NEXT ? NONE : length;
        }

        /** What may stand behind a character at a place where 'next' may stand; NOTHING if it can't. */
        private static int behind(int next, char character) {
            switch (next) {
                case FILM_NEXT:
                    return isBetween(character, '0', '7') ? PART_NEXT : NOTHING;
                case PART_NEXT:
                    return character == 'a' || character == 'e' ? DAY_NEXT : NOTHING;
                case DAY_NEXT:
                    return behindFirstDigit(character);
                case DIGIT_OR_COMMA_NEXT:
                    return isBetween(character, '0', '9') ? COMMA_NEXT : behindDay(character);
                case DIGIT_TO_4_OR_COMMA_NEXT:
                    return isBetween(character, '0', '4') ? COMMA_NEXT : behindDay(character);
                default:
                    return behindDay(character);
            }
        }

        private static int behindFirstDigit(char character) {
            if (character == '1' || character == '2') {
                return DIGIT_OR_COMMA_NEXT;
            }
            if (character == '3') {
                return DIGIT_TO_4_OR_COMMA_NEXT;
            }
            return isBetween(character, '0', '9') ? COMMA_NEXT : NOTHING;
        }

        private static int behindDay(char character) {
            return character == ',' ? FILM_NEXT : NOTHING;
        }

        private static boolean isBetween(char character, char first, char last) {
            return character >= first && character <= last;
        }

        /** The character at an index; the end of the text ends a show as a comma does. */
        private char characterAt(int index) {
            return index >= 0 && index < length ? text[index] : ',';
        }

        boolean isEndOfShow(int index) {
            return characterAt(index) == ',';
        }

        int filmAt(int index) {
            return characterAt(index) - '0';
        }

        int partAt(int index) {
            return characterAt(index) == 'a' ? 0 : 1;
        }

        int dayAt(int from, int end) {
            int day = 0;
            for (int i = from; i < end; i++) {
                day = day * 10 + characterAt(i) - '0';
            }
            return day;
        }
    }

    /** The states before the latest changes, in a ring. */
    private static final class History {
        private static final int MOST_STATES = 6;

        private final int[][] states = new int[MOST_STATES][Hall.LENGTH];
        private int oldest;
        private int size;

        int size() {
            return size;
        }

        void record(Hall hall) {
            hall.copyTo(states[(oldest + size) % MOST_STATES]);
            if (size < MOST_STATES) {
                size++;
            } else {
                oldest = (oldest + 1) % MOST_STATES;
            }
        }

        void takeBack(Hall hall) {
            if (size > 0) {
                size--;
                hall.copyFrom(states[(oldest + size) % MOST_STATES]);
            }
        }
    }
}
