/** The boundaries that promises 8 and 20 to 22 name: carryOut(), put(), wipe() and fault(). */
final class BoundariesOfTexts extends Boundaries {
    BoundariesOfTexts(Checks checks) {
        super(checks);
    }

    @Override
    void run() {
        sentence(8, "BAD_TEXT if the pad has a fault (then it stays)", this::carryOutFault);
        sentence(8, "BAD_TEXT also if the pad is empty", this::carryOutEmpty);
        sentence(8, "up to the first one that returns an error", this::carryOutUpToError);
        sentence(8, "empties the pad", this::carryOutEmpties);
        sentence(8, "a change (one, with all of them; also if none is put in)", this::carryOutOneChange);
        sentence(8, "one after the other, in place of what is there", this::carryOutInPlace);
        sentence(8, "each place and each film", this::carryOutEverywhere);
        sentence(8, "a programme that fills the pad", this::carryOutFullPad);
        sentence(20, "1 to 8 characters", this::putOneToEight);
        sentence(20, "BAD_VALUE if there is no character", this::putNoCharacter);
        sentence(20, "BAD_VALUE if a code is not 33 to 126", this::putCodes);
        sentence(20, "BAD_VALUE if a bit above 8 bits that are 0 is not 0", this::putAboveZero);
        sentence(20, "TOO_MANY if the pad would be longer than 60", this::putTooMany);
        sentence(20, "its lowest 8 bits are the last character", this::putOrder);
        sentence(21, "empties the pad, and returns the length that it had", this::wipeLengths);
        sentence(22, "a text without a fault: NONE", this::faultNone);
        sentence(22, "the text ends too early (also if it is empty)", this::faultTooEarly);
        sentence(22, "a film is a digit from 0 to 7", this::faultOfFilm);
        sentence(22, "\"a\" the afternoon, \"e\" the evening", this::faultOfPart);
        sentence(22, "a day a number from 0 to 34", this::faultOfDay);
        sentence(22, "without leading zeros", this::faultOfLeadingZero);
        sentence(22, "shows with one \",\" between them", this::faultOfComma);
        sentence(22, "the first character that cannot stand", this::faultFirst);
        sentence(22, "a text of 60 characters", this::faultOfFullPad);
    }

    private static VillageCinema written(String text) {
        VillageCinema x = hall(100, 100, 100);
        Checks.putText(x, text);
        return x;
    }

    private void carryOutFault() {
        for (String text : new String[] {"0a0,", "0a0,1", "0a0,1e", "8a0", "0a0;1a1", "0a35", "0a00", "x", "0a0,1a1,1"}) {
            VillageCinema x = written(text);
            due("carryOut() of " + text, x.carryOut(), BAD_TEXT);
            due("the pad stays", x.count(13), text.length());
            due("no show is put in", x.count(1), 0);
            due("nothing is recorded", x.count(14), 3);
        }
        VillageCinema x = written("0a0,1e1,");
        x.carryOut();
        x.put(Checks.packed("2a2"));
        due("the text that stayed", x.carryOut(), 3);
        due("its first show", x.at(0, 0, 0), 0);
        due("its second show", x.at(1, 1, 0), 1);
        due("its third show", x.at(2, 0, 0), 2);
    }

    private void carryOutEmpty() {
        VillageCinema x = hall(100);
        due("never written", x.carryOut(), BAD_TEXT);
        x.put(Checks.packed("0a0"));
        x.wipe();
        due("wiped", x.carryOut(), BAD_TEXT);
        x.put(Checks.packed("0a0"));
        due("written", x.carryOut(), 1);
        due("emptied by carryOut()", x.carryOut(), BAD_TEXT);
        due("nothing is recorded by these", x.count(14), 2);
    }

    private void carryOutUpToError() {
        String[] errors = {"3a5", "7e5", "2a9", "0a20", "1e20"};
        for (String error : errors) {
            for (int place = 0; place < 3; place++) {
                String[] shows = {"0a0", "1a1", "0e2"};
                shows[place] = error;
                VillageCinema x = hall(100, 100);
                x.film(0, 100, 0, 50, 10);
                x.let(20, 1);
                Checks.putText(x, String.join(",", shows));
                due(error + " as number " + place, x.carryOut(), place);
                due("the shows ahead of it are put in", x.count(1), place);
                due("not those behind it", x.at(2, 1, 0), NONE);
            }
        }
    }

    private void carryOutEmpties() {
        String[] texts = {"0a0", "0a0,1a1", "3a0", "0a0,7a1,0a1"};
        for (String text : texts) {
            VillageCinema x = written(text);
            x.carryOut();
            due("count(13) behind " + text, x.count(13), 0);
            due("fault()", x.fault(), 0);
            due("put()", x.put('0'), 1);
        }
    }

    private void carryOutOneChange() {
        VillageCinema x = written("0a0,1a1,2a2,0e0,1e1,2e2,0e3,1e4");
        due("eight shows", x.carryOut(), 8);
        due("one change", x.count(14), 4);
        due("undone at once", x.undo(), 3);
        due("no show is left", x.count(1), 0);
        due("the pad stays empty", x.count(13), 0);
        Checks.putText(x, "3a0,0a0");
        due("none is put in", x.carryOut(), 0);
        due("a change all the same", x.count(14), 4);
        due("undone", x.undo(), 3);
        due("three films still", x.count(0), 3);
    }

    private void carryOutInPlace() {
        VillageCinema x = written("0a0,1a0,2a0,1e0");
        x.show(2, 0, 1);
        due("all four", x.carryOut(), 4);
        due("the last one in the afternoon", x.at(0, 0, 0), 2);
        due("the one in the evening", x.at(0, 1, 0), 1);
        due("two shows", x.count(1), 2);
    }

    private void carryOutEverywhere() {
        for (int place = 0; place < 70; place++) {
            int film = place % 8;
            VillageCinema x = hall(9, 9, 9, 9, 9, 9, 9, 9);
            String text = film + (place % 2 == 0 ? "a" : "e") + place / 2;
            Checks.putText(x, text);
            due("carryOut() of " + text, x.carryOut(), 1);
            due("its place", x.at(place / 2, place % 2, 0), film);
            due("no other place", x.count(1), 1);
        }
    }

    private void carryOutFullPad() {
        VillageCinema x = written("0a0,1e0,2a1,0e1,1a2,2e2,0a3,1e3,2a4,0e4,1a5,2e5,0a6,1e6,2a34");
        due("60 characters", x.count(13), 60);
        due("fifteen shows", x.carryOut(), 15);
        due("the first one", x.at(0, 0, 0), 0);
        due("the last one", x.at(34, 0, 0), 2);
    }

    private void putOneToEight() {
        String text = "0a0,1e34";
        for (int length = 1; length <= 8; length++) {
            VillageCinema x = new VillageCinema();
            due(length + " characters", x.put(Checks.packed(text.substring(0, length))), length);
            due("count(13)", x.count(13), length);
            due("the same once more", x.put(Checks.packed(text.substring(0, length))), 2 * length);
        }
    }

    private void putNoCharacter() {
        VillageCinema x = new VillageCinema();
        due("put(0)", x.put(0), BAD_VALUE);
        for (int shift = 8; shift < 64; shift += 8) {
            due("0 as the last character, '0' above it by " + shift, x.put((long) '0' << shift), BAD_VALUE);
        }
        due("count(13)", x.count(13), 0);
        x.put('0');
        due("put(0) behind a character", x.put(0), BAD_VALUE);
        due("count(13)", x.count(13), 1);
    }

    /** Each code at each of the 8 places, with good characters at all the others. */
    private void putCodes() {
        for (int code = 1; code < 256; code++) {
            boolean good = code >= 33 && code <= 126;
            for (int place = 0; place < 8; place++) {
                VillageCinema x = new VillageCinema();
                long others = 0x3030303030303030L & ~(255L << 8 * place);
                long eight = others | (long) code << 8 * place;
                due("code " + code + " at " + place, x.put(eight), good ? 8 : BAD_VALUE);
                long top = eight << 8 * (7 - place) >>> 8 * (7 - place);
                due("code " + code + " on top, at " + place, new VillageCinema().put(top), good ? place + 1 : BAD_VALUE);
                due("count(13)", x.count(13), good ? 8 : 0);
            }
        }
    }

    private void putAboveZero() {
        VillageCinema x = new VillageCinema();
        for (int length = 1; length <= 6; length++) {
            long characters = 0x303030303030L >>> 8 * (6 - length);
            for (int bit = 8 * length + 8; bit < 64; bit++) {
                due("bit " + bit + " above " + length, x.put(characters | 1L << bit), BAD_VALUE);
            }
        }
        due("count(13)", x.count(13), 0);
        due("seven characters, nothing above them", x.put(0x30303030303030L), 7);
        VillageCinema y = new VillageCinema();
        long[] others = {-1, Long.MIN_VALUE, Long.MAX_VALUE, Long.MIN_VALUE | '0', 0x30003030303030L, 1L << 32};
        for (long other : others) {
            due("put(" + other + ")", y.put(other), BAD_VALUE);
        }
        due("count(13)", y.count(13), 0);
    }

    private void putTooMany() {
        for (int length = 1; length <= 8; length++) {
            String more = "00000000".substring(0, length);
            for (int before = 60 - length - 1; before <= 60; before++) {
                VillageCinema x = new VillageCinema();
                Checks.putText(x, "0".repeat(before));
                int want = before + length <= 60 ? before + length : TOO_MANY;
                due(length + " behind " + before, x.put(Checks.packed(more)), want);
                due("count(13)", x.count(13), want == TOO_MANY ? before : want);
            }
        }
        VillageCinema x = new VillageCinema();
        Checks.putText(x, "0a0,".repeat(14) + "0a3");
        due("two more than fit, one by one: the first", x.put('4'), 60);
        due("the second", x.put('4'), TOO_MANY);
        due("what is there is without a fault", x.fault(), NONE);
    }

    private void putOrder() {
        VillageCinema x = hall(100, 100);
        x.put(Checks.packed("1a12,0e2"));
        x.put('1');
        due("two shows", x.carryOut(), 2);
        due("1a12", x.at(12, 0, 0), 1);
        due("0e21", x.at(21, 1, 0), 0);
        x.put('1' << 24 | 'e' << 16 | '3' << 8 | '4');
        due("one show", x.carryOut(), 1);
        due("1e34", x.at(34, 1, 0), 1);
    }

    private void wipeLengths() {
        for (int length = 0; length <= 60; length++) {
            VillageCinema x = hall(100);
            Checks.putText(x, "x".repeat(length));
            due("wipe() of " + length, x.wipe(), length);
            due("count(13)", x.count(13), 0);
            due("wipe() of an empty pad", x.wipe(), 0);
            due("it is no change", x.count(14), 1);
            x.put(Checks.packed("0a0"));
            due("nothing of the old text is there", x.fault(), NONE);
        }
    }

    private void fault(String text, int want) {
        VillageCinema x = new VillageCinema();
        Checks.putText(x, text);
        due("fault() of \"" + text + "\"", x.fault(), want);
        due("fault() of it, once more", x.fault(), want);
        due("carryOut() of it", x.carryOut(), want == NONE ? 0 : BAD_TEXT);
    }

    private void faultNone() {
        for (int film = 0; film <= 7; film++) {
            for (int day = 0; day <= 34; day++) {
                fault(film + (day % 2 == 0 ? "a" : "e") + day, NONE);
            }
        }
        fault("0a0,0a0", NONE);
        fault("7e34,7e34", NONE);
    }

    private void faultTooEarly() {
        fault("", 0);
        fault("0", 1);
        fault("0a", 2);
        fault("7e", 2);
        fault("0a0,", 4);
        fault("0a34,", 5);
        fault("0a34,0", 6);
        fault("0a34,0e", 7);
    }

    private void faultAt(String before, String allowed) {
        for (char character = 33; character <= 126; character++) {
            VillageCinema x = new VillageCinema();
            Checks.putText(x, before + character);
            int fault = x.fault();
            if (allowed.indexOf(character) < 0) {
                due("fault() of \"" + before + character + "\"", fault, before.length());
            } else {
                due("\"" + before + character + "\" can stand", fault == before.length() ? 1 : 0, 0);
            }
        }
    }

    private void faultOfFilm() {
        faultAt("", "01234567");
        faultAt("0a0,", "01234567");
        faultAt("0a34,", "01234567");
    }

    private void faultOfPart() {
        faultAt("0", "ae");
        faultAt("7", "ae");
        faultAt("3a1,5", "ae");
    }

    private void faultOfDay() {
        faultAt("0a", "0123456789");
        faultAt("0e1", "0123456789,");
        faultAt("0a2", "0123456789,");
        faultAt("0e3", "01234,");
        for (int first = 4; first <= 9; first++) {
            faultAt("0a" + first, ",");
        }
        for (int day = 10; day <= 34; day++) {
            faultAt("0a" + day, ",");
        }
        for (int day = 35; day <= 99; day++) {
            fault("0e" + day, 3);
        }
        fault("0a100", 4);
        fault("0a340", 4);
        fault("0a4294967296", 3);
    }

    private void faultOfLeadingZero() {
        faultAt("0a0", ",");
        fault("0a00", 3);
        fault("0a01", 3);
        fault("0a034", 3);
        fault("0a1,0a09", 7);
    }

    private void faultOfComma() {
        fault(",", 0);
        fault(",0a0", 0);
        fault("0a0,,0a0", 4);
        fault("0a0,", 4);
        fault("0a00a0", 3);
        fault("0a100a0", 4);
        fault("0,a0", 1);
        fault("0a,0", 2);
        fault("0a1;0a2", 3);
        fault("0a1.5", 3);
    }

    private void faultFirst() {
        fault("x!", 0);
        fault("0x!", 1);
        fault("0ax!", 2);
        fault("0a0x!", 3);
        fault("0a0,0e35,8a0", 7);
        fault("9a0,0a0", 0);
        fault("0A0,0a0", 1);
        fault("0a-1", 2);
        fault("0a+1", 2);
    }

    private void faultOfFullPad() {
        fault("0a0,".repeat(14) + "0a34", NONE);
        fault("0a0,".repeat(15), 60);
        fault("0a10,".repeat(12), 60);
        fault("0a0,".repeat(14) + "0a3x", 59);
        fault("x".repeat(60), 0);
        fault("0a0,".repeat(14) + "0a3", NONE);
    }
}
