import java.util.BitSet;

/** What the tests share: they tell what is due, and the program ends with exit code 1 if something else came. */
final class Checks {
    private final String title;
    private final BitSet promises = new BitSet();
    private String sentence = "";
    private int right = 0;
    private int wrong = 0;

    Checks(String title) {
        this.title = title;
    }

    void due(String call, long got, long want) {
        if (got == want) {
            right++;
            return;
        }
        wrong++;
        System.out.println(title + ": " + sentence + call + " answered " + got + ", due is " + want);
    }

    void isTrue(String what, boolean holds) {
        due(what, holds ? 1 : 0, 1);
    }

    /** The test of one sentence of the document; what it finds wrong is told with the promise and the sentence. */
    void sentence(int promise, String words, Runnable test) {
        sentence = "promise " + promise + ", \"" + words + "\": ";
        promises.set(promise);
        int before = right + wrong;
        test.run();
        isTrue("something is looked at", right + wrong > before);
        sentence = "";
    }

    /** Each promise up to the last one has a sentence with a test. */
    void everyPromise(int last) {
        for (int promise = 1; promise <= last; promise++) {
            isTrue("promise " + promise + " has a test", promises.get(promise));
        }
    }

    void end() {
        System.out.println(title + ": " + right + " right, " + wrong + " wrong");
        if (wrong != 0 || right == 0) {
            System.exit(1);
        }
    }

    /** Up to 8 characters as the number that put() takes. */
    static long packed(String text) {
        long packed = 0;
        for (int i = 0; i < text.length(); i++) {
            packed = packed << 8 | text.charAt(i);
        }
        return packed;
    }

    /** Puts a text of any length on the pad; answers what the last put() answered. */
    static int putText(VillageCinema cinema, String text) {
        int answer = cinema.count(13);
        for (int from = 0; from < text.length(); from += 8) {
            answer = cinema.put(packed(text.substring(from, Math.min(from + 8, text.length()))));
        }
        return answer;
    }

    /**
     * Everything that the methods which change nothing tell, but for the pad and the history. That takes 456
     * of the 512 calls of an object: it is asked of an object only once.
     */
    static String stateOf(VillageCinema cinema) {
        StringBuilder all = new StringBuilder();
        for (int what = 0; what <= 12; what++) {
            all.append(cinema.count(what)).append(' ');
        }
        for (int film = 0; film < 8; film++) {
            for (int what = 0; what <= 10; what++) {
                all.append(cinema.of(film, what)).append(' ');
            }
            for (int week = 0; week < 5; week++) {
                all.append(cinema.inWeek(film, week, 1)).append(' ');
            }
        }
        for (int day = 0; day < 35; day++) {
            all.append(cinema.rent(day)).append(' ');
            for (int part = 0; part < 2; part++) {
                for (int what = 0; what <= 3; what++) {
                    all.append(cinema.at(day, part, what)).append(' ');
                }
            }
        }
        return all.toString();
    }
}
