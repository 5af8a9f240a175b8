import java.util.function.Consumer;

/** Promises 23 to 25: undo(), save() and restore(). */
public final class UndoAndSavingTest {
    private static final int BAD_VALUE = -2, NOT_POSSIBLE = -5, NONE = -6;
    private static final int[] OUT = {-1, 2, Integer.MIN_VALUE, Integer.MAX_VALUE};
    private static final Checks CHECKS = new Checks("UndoAndSavingTest");

    private UndoAndSavingTest() {
    }

    public static void main(String[] arguments) {
        promise23EachChange();
        promise23SixStates();
        promise23WhatIsNoChange();
        promise23PadAndSlotsStay();
        promise24Save();
        promise25Restore();
        promise25Undone();
        CHECKS.end();
    }

    private static void due(String call, long got, long want) {
        CHECKS.due(call, got, want);
    }

    private static VillageCinema someShows() {
        VillageCinema x = new VillageCinema();
        x.film(0, 300, 100, 50, 0);
        x.film(1, 200, 50, 60, 5);
        x.show(0, 3, 1);
        x.show(1, 9, 0);
        x.let(12, 77);
        return x;
    }

    /** Makes a change and undoes it, and looks whether everything is as it was. */
    private static void undoes(String change, Consumer<VillageCinema> made) {
        VillageCinema x = someShows();
        x.undo();
        due("two undone", x.undo(), 3);
        String before = Checks.stateOf(x);
        VillageCinema y = someShows();
        y.undo();
        y.undo();
        made.accept(y);
        due(change + " is one change", y.count(14), 4);
        due("undo of " + change, y.undo(), 3);
        CHECKS.isTrue(change + " is undone", before.equals(Checks.stateOf(y)));
    }

    private static void carryOut(VillageCinema x, String text) {
        Checks.putText(x, text);
        x.carryOut();
    }

    private static void promise23EachChange() {
        for (int i = 0; i < 5; i++) {
            int setting = i;
            undoes("set", x -> x.set(setting, 10));
        }
        undoes("set to the same", x -> x.set(VillageCinema.SEATS, 80));
        undoes("film", x -> x.film(2, 999, 500, 90, 34));
        undoes("show", x -> x.show(1, 34, 1));
        undoes("the same show", x -> x.show(0, 3, 1));
        undoes("drop", x -> x.drop(3, 1));
        undoes("exchange", x -> x.exchange(3, 1, 20, 0));
        undoes("exchange with itself", x -> x.exchange(3, 1, 3, 1));
        undoes("let", x -> x.let(3, 500));
        undoes("let with 0", x -> x.let(3, 0));
        undoes("carryOut", x -> carryOut(x, "0a0,0a1,1e34"));
        undoes("carryOut of none", x -> carryOut(x, "7a0"));
    }

    private static void promise23SixStates() {
        VillageCinema x = new VillageCinema();
        due("none", x.undo(), NOT_POSSIBLE);
        for (int price = 7; price <= 20; price++) {
            x.set(VillageCinema.PRICE, price);
            due("at most six", x.count(14), Math.min(6, price - 6));
        }
        for (int left = 5; left >= 0; left--) {
            due("undo", x.undo(), left);
            due("the price before", x.count(9), 14 + left);
        }
        due("not further", x.undo(), NOT_POSSIBLE);
        due("the oldest one kept", x.count(9), 14);
        x.set(VillageCinema.PRICE, 1);
        x.set(VillageCinema.PRICE, 2);
        due("undo", x.undo(), 1);
        x.set(VillageCinema.PRICE, 3);
        due("undo", x.undo(), 1);
        due("1 again", x.count(9), 1);
        due("undo", x.undo(), 0);
        due("14 again", x.count(9), 14);
    }

    private static void promise23WhatIsNoChange() {
        VillageCinema x = someShows();
        x.undo();
        x.put(Checks.packed("0a1"));
        x.fault();
        x.wipe();
        x.save(0);
        x.set(0, 9);
        x.film(0, 0, 0, 0, 0);
        x.show(0, 35, 0);
        x.drop(0, 0);
        x.exchange(9, 0, 4, 0);
        x.let(35, 0);
        x.carryOut();
        x.restore(1);
        x.undo();
        due("two undone, and nothing else recorded", x.count(14), 3);
    }

    private static void promise23PadAndSlotsStay() {
        VillageCinema x = someShows();
        x.put(Checks.packed("0a1,0e2"));
        x.save(1);
        x.undo();
        due("the pad stays", x.count(13), 7);
        due("not let", x.rent(12), 0);
        due("the slot stays", x.restore(1), 2);
        due("let again", x.rent(12), 77);
        x.undo();
        due("undone", x.rent(12), 0);
        due("the slot stays still", x.restore(1), 2);
        due("let once more", x.rent(12), 77);
    }

    private static void promise24Save() {
        VillageCinema x = someShows();
        for (int out : OUT) {
            due("slot " + out, x.save(out), BAD_VALUE);
        }
        due("still nothing in a slot", x.restore(0), NOT_POSSIBLE);
        String before = Checks.stateOf(someShows());
        due("two shows", x.save(0), 2);
        VillageCinema y = someShows();
        y.save(0);
        CHECKS.isTrue("save changes nothing", before.equals(Checks.stateOf(y)));
        due("nor is it recorded", x.undo(), 4);
        x.show(0, 0, 0);
        x.show(0, 34, 1);
        due("the first and the last place count", x.save(1), 4);
        x.drop(0, 0);
        x.drop(34, 1);
        x.drop(9, 0);
        due("one show", x.save(1), 1);
        x.drop(3, 1);
        due("overwritten", x.save(1), 0);
        due("restored", x.restore(1), 0);
        due("the other slot", x.restore(0), 2);
        CHECKS.isTrue("everything", before.equals(Checks.stateOf(x)));
    }

    private static void promise25Restore() {
        VillageCinema x = someShows();
        for (int out : OUT) {
            due("slot " + out, x.restore(out), BAD_VALUE);
        }
        due("nothing is saved", x.restore(1), NOT_POSSIBLE);
        x.save(1);
        due("nothing in the other one", x.restore(0), NOT_POSSIBLE);
        due("nothing is recorded", x.count(14), 5);
        for (int rounds = 1; rounds <= 2; rounds++) {
            changedAndRestored(rounds);
        }
    }

    private static void changedAndRestored(int rounds) {
        VillageCinema x = someShows();
        x.save(1);
        for (int round = 0; round < rounds; round++) {
            x.set(round, 15);
            x.set(2 + round, 15);
            x.film(0, 5, 5, 25, 5);
            x.let(3, 9);
            x.show(1, 30 + round, 1);
            x.put(48);
            due("two shows", x.restore(1), 2);
            due("but not the pad", x.count(13), round + 1);
            due("nor the history", x.count(14), 6);
        }
        String saved = Checks.stateOf(someShows());
        CHECKS.isTrue("everything is as it was saved", saved.equals(Checks.stateOf(x)));
        due("film 2 is gone", x.of(2, 0), -1);
        due("its number comes again", x.film(3, 9, 9, 29, 9), 2);
        due("with what it is now", x.of(2, 1), 9);
    }

    private static void promise25Undone() {
        VillageCinema x = new VillageCinema();
        x.save(0);
        x.film(0, 300, 100, 50, 0);
        x.show(0, 3, 1);
        due("an empty hall", x.restore(0), 0);
        due("no films", x.count(0), 0);
        due("no show", x.at(3, 1, 0), NONE);
        due("it is one change", x.count(14), 3);
        due("which is undone", x.undo(), 2);
        due("the film is there", x.of(0, 1), 300);
        due("the show is there", x.at(3, 1, 0), 0);
        x.restore(0);
        x.restore(0);
        due("a second restore of the same", x.count(14), 4);
        due("is undone, too", x.undo(), 3);
        due("still no films", x.count(0), 0);
    }
}
