/** Promises 8 and 20 to 22: carryOut(), put(), wipe() and fault(). */
public final class TextsTest {
    private static final int BAD_VALUE = -2, BAD_TEXT = -3, TOO_MANY = -4, NONE = -6;
    private static final Checks CHECKS = new Checks("TextsTest");

    private TextsTest() {
    }

    public static void main(String[] arguments) {
        promise8CarryOut();
        promise8StopsAtTheFirstError();
        promise8Refused();
        promise20Put();
        promise20PutTooMuch();
        promise21Wipe();
        promise22Fault();
        promise22EveryCharacter();
        CHECKS.end();
    }

    private static void due(String call, long got, long want) {
        CHECKS.due(call, got, want);
    }

    private static void promise8CarryOut() {
        VillageCinema x = new VillageCinema();
        x.film(0, 500, 0, 50, 0);
        x.film(0, 500, 0, 50, 0);
        x.show(1, 9, 1);
        Checks.putText(x, "0a0,1e9,0e10,1a20,0a34,0e9");
        due("six shows", x.carryOut(), 6);
        due("the pad is empty", x.count(13), 0);
        due("one change", x.count(14), 4);
        due("five places", x.count(1), 5);
        int[][] places = {{0, 0, 0}, {9, 1, 0}, {10, 1, 0}, {20, 0, 1}, {34, 0, 0}};
        for (int[] place : places) {
            due("day " + place[0], x.at(place[0], place[1], 0), place[2]);
        }
        due("undone at once", x.undo(), 3);
        due("one show again", x.count(1), 1);
        due("the one that was there", x.at(9, 1, 0), 1);
        due("the pad is no part of it", x.count(13), 0);
        Checks.putText(x, "1e34");
        due("the last place", x.carryOut(), 1);
        due("is taken", x.at(34, 1, 0), 1);
        Checks.putText(x, "0a0,0a1,0a2,0a3,0a4,0a5,0a6,0a7,0a8,0a9,1e0,1e1,1e2,1e3,1e4");
        due("fifteen shows", x.carryOut(), 15);
    }

    private static void promise8StopsAtTheFirstError() {
        VillageCinema x = new VillageCinema();
        x.film(0, 500, 0, 50, 0);
        x.film(0, 500, 0, 50, 20);
        x.let(5, 10);
        Checks.putText(x, "0a0,2a1,0a2");
        due("up to the film that isn't there", x.carryOut(), 1);
        due("the pad is empty", x.count(13), 0);
        due("none behind it", x.at(2, 0, 0), NONE);
        due("recorded", x.count(14), 4);
        Checks.putText(x, "0a1,0e5,0a2");
        due("up to the day that is let", x.carryOut(), 1);
        due("two shows", x.count(1), 2);
        Checks.putText(x, "1a19,0a2");
        due("up to the one ahead of its first day", x.carryOut(), 0);
        due("a change also if none is put in", x.count(14), 6);
        due("the pad is empty then, too", x.count(13), 0);
        due("two shows still", x.count(1), 2);
        Checks.putText(x, "1a20");
        due("on its first day", x.carryOut(), 1);
    }

    private static void promise8Refused() {
        VillageCinema x = new VillageCinema();
        due("an empty pad", x.carryOut(), BAD_TEXT);
        x.film(0, 500, 0, 50, 0);
        Checks.putText(x, "0a0,");
        due("a comma at the end", x.carryOut(), BAD_TEXT);
        due("the pad stays", x.count(13), 4);
        due("nothing is put in", x.count(1), 0);
        due("nothing is recorded", x.count(14), 1);
        Checks.putText(x, "0e0");
        due("mended", x.carryOut(), 2);
    }

    private static void promise20Put() {
        VillageCinema x = new VillageCinema();
        due("no character", x.put(0), BAD_VALUE);
        due("a code 32", x.put(32), BAD_VALUE);
        due("a code 127", x.put(127), BAD_VALUE);
        due("a code 255", x.put(255), BAD_VALUE);
        due("a code 1", x.put(1), BAD_VALUE);
        due("a bad code above a good one", x.put(32L << 8 | 48), BAD_VALUE);
        due("a bad code at the top", x.put(127L << 56 | 0x30303030303030L), BAD_VALUE);
        due("a negative number", x.put(-1), BAD_VALUE);
        due("the least number", x.put(Long.MIN_VALUE), BAD_VALUE);
        due("the top bit", x.put(Long.MIN_VALUE | 48), BAD_VALUE);
        due("the greatest number", x.put(Long.MAX_VALUE), BAD_VALUE);
        due("a bit above 8 bits that are 0", x.put(1L << 16 | 48), BAD_VALUE);
        due("a character above them", x.put(48L << 16 | 48), BAD_VALUE);
        due("a character far above them", x.put(48L << 56 | 48), BAD_VALUE);
        due("0 as the last character", x.put(48L << 8), BAD_VALUE);
        due("nothing is put", x.count(13), 0);
        due("the least code", x.put(33), 1);
        due("the greatest code", x.put(126), 2);
        due("eight characters", x.put(Checks.packed("~~~~!!!!")), 10);
        due("nothing is recorded", x.count(14), 0);
        x.wipe();
        x.film(0, 100, 0, 50, 0);
        x.put(Checks.packed("0a1"));
        due("the order of the characters", x.put(Checks.packed("2,0e30")), 9);
        due("is kept", x.carryOut(), 2);
        due("day 12", x.at(12, 0, 0), 0);
        due("day 30", x.at(30, 1, 0), 0);
    }

    private static void promise20PutTooMuch() {
        VillageCinema x = new VillageCinema();
        for (int length = 8; length <= 56; length += 8) {
            due("put", x.put(Checks.packed("00000000")), length);
        }
        due("61 characters", x.put(Checks.packed("00000")), TOO_MANY);
        due("a bad code ahead of too many", x.put(Checks.packed("0000 0")), BAD_VALUE);
        due("nothing is put", x.count(13), 56);
        due("60 characters", x.put(Checks.packed("0000")), 60);
        due("one more", x.put(48), TOO_MANY);
        due("none more", x.put(0), BAD_VALUE);
        due("60", x.wipe(), 60);
        due("from the beginning", x.put(48), 1);
    }

    private static void promise21Wipe() {
        VillageCinema x = new VillageCinema();
        due("an empty pad", x.wipe(), 0);
        x.put(Checks.packed("0a1,0e2"));
        due("its length", x.wipe(), 7);
        due("empty", x.count(13), 0);
        due("once more", x.wipe(), 0);
        due("nothing is recorded", x.count(14), 0);
        due("the fault of an empty text", x.fault(), 0);
    }

    private static int faultOf(String text) {
        VillageCinema x = new VillageCinema();
        Checks.putText(x, text);
        int fault = x.fault();
        due("the pad stays with " + text, x.count(13), text.length());
        return fault;
    }

    private static void promise22Fault() {
        String[] good = {"0a0", "7e34", "0a9", "3e3", "3e30", "3e29", "3e19", "3e10", "0a0,1e1", "0a34,0a34,0a3,7e20",
            "0a10,0a10,0a10,0a10,0a10,0a10,0a10,0a10,0a10,0a10,0a10,0a100".substring(0, 59)};
        for (String text : good) {
            due("fault of " + text, faultOf(text), NONE);
        }
        String[] bad = {"", "0", "0a", "8a0", "a", ",", "0b", "0A", "00", "0aa", "0a,", "0a00", "0a01", "0a35", "0a40",
            "0a340", "0a100", "0a10,", "0a1,,", "0a1,8", "0a1a", "0a1,0e2,0", "0a1;", "0a99", "0e3a", "0e-1", "/", ":",
            "0a0,7e35,x"};
        int[] faults = {0, 1, 2, 0, 0, 0, 1, 1, 1, 2, 2, 3, 3, 3, 3,
            4, 4, 5, 4, 4, 3, 9, 3, 3, 3, 2, 0, 0, 7};
        for (int i = 0; i < bad.length; i++) {
            due("fault of " + bad[i], faultOf(bad[i]), faults[i]);
        }
        due("a text that fills the pad", faultOf("0a0,".repeat(15)), 60);
        due("a text without a fault that fills the pad", faultOf("0a0,".repeat(14) + "0a34"), NONE);
    }

    /** Each character from 33 to 126 behind each beginning: only those named may stand there. */
    private static void promise22EveryCharacter() {
        String[] beginnings = {"", "0", "7a", "7e", "0a0", "0a1", "0a2", "0a3", "0a4", "0a9", "0a10", "0a34", "0a5,"};
        String[] allowed = {"01234567", "ae", "0123456789", "0123456789", ",", "0123456789,", "0123456789,", "01234,",
            ",", ",", ",", ",", "01234567"};
        for (int i = 0; i < beginnings.length; i++) {
            for (char character = 33; character <= 126; character++) {
                int fault = faultOf(beginnings[i] + character);
                boolean stands = fault == NONE || fault > beginnings[i].length();
                CHECKS.isTrue(beginnings[i] + character, stands == (allowed[i].indexOf(character) >= 0));
            }
        }
    }
}
