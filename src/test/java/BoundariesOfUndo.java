import java.util.ArrayDeque;
import java.util.Deque;
import java.util.function.Consumer;

/** The boundaries that promises 23 to 25 name: undo(), save() and restore(). */
final class BoundariesOfUndo extends Boundaries {
    BoundariesOfUndo(Checks checks) {
        super(checks);
    }

    @Override
    void run() {
        sentence(23, "NOT_POSSIBLE if there is none", this::undoNone);
        sentence(23, "a history of at most 6 states", this::undoSix);
        sentence(23, "the oldest one is dropped, round after round", this::undoManyRounds);
        sentence(23, "returns how many changes can be undone then", this::undoReturns);
        sentence(23, "records also if nothing is different then", this::undoOfNothingDifferent);
        sentence(23, "everything except the pad, the slots and the history", this::undoEverything);
        sentence(23, "except the pad", this::undoLeavesPad);
        sentence(23, "except the slots", this::undoLeavesSlots);
        sentence(23, "a show of a text records nothing by itself", this::undoOfText);
        sentence(24, "BAD_VALUE if there is no such slot", this::saveNoSuchSlot);
        sentence(24, "returns how many shows there are, 0 to 70", this::saveShows);
        sentence(24, "overwrites what was saved there", this::saveOverwrites);
        sentence(24, "slot: 0 or 1", this::saveTwoSlots);
        sentence(24, "save() is no change", this::saveIsNoChange);
        sentence(25, "BAD_VALUE if there is no such slot", this::restoreNoSuchSlot);
        sentence(25, "NOT_POSSIBLE if nothing was saved in it", this::restoreNothingSaved);
        sentence(25, "a slot, which keeps it", this::restoreKeeps);
        sentence(25, "everything except the pad, the history and the slots", this::restoreEverything);
        sentence(25, "this is a change", this::restoreIsChange);
        sentence(25, "returns how many shows there are then", this::restoreShows);
        sentence(25, "a hall without films is a state, too", this::restoreEmptyHall);
    }

    private void undoNone() {
        VillageCinema x = new VillageCinema();
        due("a new object", x.undo(), NOT_POSSIBLE);
        x.set(VillageCinema.PRICE, 7);
        due("one change", x.undo(), 0);
        due("none any more", x.undo(), NOT_POSSIBLE);
        due("count(14)", x.count(14), 0);
        x.put('0');
        x.wipe();
        x.save(0);
        due("no change was made", x.undo(), NOT_POSSIBLE);
    }

    private void undoSix() {
        VillageCinema x = new VillageCinema();
        for (int price = 7; price <= 13; price++) {
            x.set(VillageCinema.PRICE, price);
        }
        due("seven changes", x.count(14), 6);
        for (int price = 12; price >= 7; price--) {
            x.undo();
            due("the price before", x.count(9), price);
        }
        due("the seventh can't be undone", x.undo(), NOT_POSSIBLE);
        due("the oldest state kept", x.count(9), 7);
        VillageCinema six = new VillageCinema();
        for (int price = 7; price <= 12; price++) {
            six.set(VillageCinema.PRICE, price);
        }
        for (int left = 5; left >= 0; left--) {
            due("six changes: undo()", six.undo(), left);
        }
        due("all six are undone", six.count(9), 6);
    }

    /** Changes and undos in turn, so that the states kept begin at each place of whatever holds them. */
    private void undoManyRounds() {
        for (int undos = 0; undos <= 6; undos++) {
            VillageCinema x = new VillageCinema();
            Deque<Integer> states = new ArrayDeque<>();
            int seats = 80;
            for (int change = 0; change < 60; change++) {
                states.addLast(seats);
                if (states.size() > 6) {
                    states.removeFirst();
                }
                seats = 100 + change;
                due("set()", x.set(VillageCinema.SEATS, seats), states.peekLast());
                for (int undo = 0; change % 7 == 6 && undo < undos; undo++) {
                    seats = states.removeLast();
                    due("undo()", x.undo(), states.size());
                    due("the seats then", x.count(8), seats);
                }
                due("count(14)", x.count(14), states.size());
            }
        }
    }

    private void undoReturns() {
        VillageCinema x = hall(1, 2, 3);
        due("two can be undone then", x.undo(), 2);
        due("undo() records nothing", x.count(14), 2);
        x.let(3, 3);
        due("a change behind an undo", x.count(14), 3);
        due("undone", x.undo(), 2);
        due("one", x.undo(), 1);
        due("none", x.undo(), 0);
    }

    private static VillageCinema busy() {
        VillageCinema x = hall(100, 200);
        x.show(0, 3, 1);
        x.save(0);
        x.put(Checks.packed("7a0"));
        return x;
    }

    private void changes(String name, Consumer<VillageCinema> change, boolean differs) {
        VillageCinema x = busy();
        String before = Checks.stateOf(busy());
        change.accept(x);
        due(name + " is one change", x.count(14), 4);
        VillageCinema again = busy();
        change.accept(again);
        due(name + " differs", before.equals(Checks.stateOf(again)) ? 0 : 1, differs ? 1 : 0);
        due("undo() of " + name, x.undo(), 3);
        same("undone " + name, Checks.stateOf(x), before);
    }

    private void undoOfNothingDifferent() {
        changes("set to the same", x -> x.set(VillageCinema.SEATS, 80), false);
        changes("the same show", x -> x.show(0, 3, 1), false);
        changes("a part with itself", x -> x.exchange(3, 1, 3, 1), false);
        changes("none with none", x -> x.exchange(0, 0, 1, 1), false);
        changes("a day that is not let is not let any more", x -> x.let(3, 0), false);
        changes("a text of which no show is put in", VillageCinema::carryOut, false);
        changes("what is saved is what there is", x -> x.restore(0), false);
    }

    private void undoEverything() {
        for (int setting = 0; setting < 5; setting++) {
            int changed = setting;
            changes("setting " + setting, x -> x.set(changed, 15), true);
        }
        changes("film", x -> x.film(3, 999, 500, 90, 34), true);
        changes("show", x -> x.show(1, 34, 1), true);
        changes("show in place of another", x -> x.show(1, 3, 1), true);
        changes("drop", x -> x.drop(3, 1), true);
        changes("exchange", x -> x.exchange(3, 1, 34, 0), true);
        changes("let with a show", x -> x.let(3, 999), true);
        changes("let without a show", x -> x.let(34, 1), true);
    }

    private void undoLeavesPad() {
        VillageCinema x = hall(100);
        x.put(Checks.packed("0a0"));
        x.let(9, 9);
        x.put(Checks.packed(",0e1"));
        x.undo();
        due("what was put since is there", x.count(13), 7);
        due("both shows", x.carryOut(), 2);
        x.undo();
        due("what was carried out does not come back", x.count(13), 0);
        x.put(Checks.packed("0a3"));
        x.let(9, 9);
        x.wipe();
        x.undo();
        due("what was wiped does not come back", x.count(13), 0);
    }

    private void undoLeavesSlots() {
        VillageCinema x = hall(100);
        x.show(0, 3, 1);
        x.save(1);
        x.undo();
        x.undo();
        due("no films", x.count(0), 0);
        due("the slot is there still", x.restore(1), 1);
        due("with its film", x.count(0), 1);
        due("undo of it", x.undo(), 0);
        due("no films again", x.count(0), 0);
        due("the slot keeps it", x.restore(1), 1);
        due("the other slot is empty", x.restore(0), NOT_POSSIBLE);
    }

    private void undoOfText() {
        VillageCinema x = hall(100);
        Checks.putText(x, "0a0,0a1,0a2,0a3,0a4,0a5,0a6,0a7,0a8,0a9");
        due("ten shows", x.carryOut(), 10);
        due("two changes", x.count(14), 2);
        due("undone at once", x.undo(), 1);
        due("no show is left", x.count(1), 0);
    }

    private void saveNoSuchSlot() {
        VillageCinema x = allShown();
        for (int slot : beyond(0, 1)) {
            due("save(" + slot + ")", x.save(slot), BAD_VALUE);
        }
        due("nothing is in slot 0", x.restore(0), NOT_POSSIBLE);
        due("nothing is in slot 1", x.restore(1), NOT_POSSIBLE);
    }

    private void saveShows() {
        VillageCinema x = hall(9);
        due("none", x.save(0), 0);
        x.show(0, 0, 0);
        due("one, at the first place", x.save(1), 1);
        x.show(0, 34, 1);
        due("two, one at the last place", x.save(0), 2);
        due("all", allShown().save(1), 70);
    }

    private void saveOverwrites() {
        VillageCinema x = hall(9);
        x.show(0, 0, 0);
        x.save(0);
        x.show(0, 0, 1);
        due("more shows", x.save(0), 2);
        x.let(0, 5);
        due("the later state", x.restore(0), 2);
        x.let(0, 5);
        due("no shows", x.save(0), 0);
        x.let(0, 0);
        due("the latest state", x.restore(0), 0);
        due("its rent", x.rent(0), 5);
    }

    private void saveTwoSlots() {
        VillageCinema x = hall(9);
        x.save(0);
        x.show(0, 0, 0);
        x.save(1);
        x.show(0, 0, 1);
        due("slot 0", x.restore(0), 0);
        due("slot 1", x.restore(1), 1);
        due("slot 0 again", x.restore(0), 0);
        due("saved from slot 0 into slot 1", x.save(1), 0);
        x.show(0, 0, 1);
        due("slot 1 then", x.restore(1), 0);
    }

    private void saveIsNoChange() {
        VillageCinema x = busy();
        x.save(0);
        x.save(1);
        due("count(14)", x.count(14), 3);
        due("undo() undoes the show", x.undo(), 2);
        due("it is gone", x.count(1), 0);
        due("both films are there", x.count(0), 2);
    }

    private void restoreNoSuchSlot() {
        VillageCinema x = allShown();
        x.save(0);
        x.save(1);
        x.let(0, 1);
        for (int slot : beyond(0, 1)) {
            due("restore(" + slot + ")", x.restore(slot), BAD_VALUE);
        }
        due("count(1)", x.count(1), 68);
    }

    private void restoreNothingSaved() {
        for (int slot = 0; slot < 2; slot++) {
            VillageCinema x = busy();
            VillageCinema fresh = hall(100);
            due("nothing in slot " + slot, fresh.restore(slot), NOT_POSSIBLE);
            due("a film is there still", fresh.count(0), 1);
            due("nothing is recorded", fresh.count(14), 1);
            fresh.save(1 - slot);
            due("something in the other one", fresh.restore(slot), NOT_POSSIBLE);
            due("only slot 0 is saved", x.restore(slot), slot == 0 ? 1 : NOT_POSSIBLE);
        }
    }

    private void restoreKeeps() {
        VillageCinema x = busy();
        for (int round = 0; round < 3; round++) {
            x.show(1, 10 + round, 0);
            x.set(VillageCinema.PRICE, 10 + round);
            x.let(20 + round, 9);
            due("restore(0)", x.restore(0), 1);
            due("the price", x.count(9), 6);
            due("the rents", x.count(6), 0);
        }
        due("count(14)", x.count(14), 6);
    }

    private static VillageCinema saved() {
        VillageCinema x = new VillageCinema();
        for (int setting = 0; setting < 5; setting++) {
            x.set(setting, 11 + setting);
        }
        x.film(3, 300, 100, 60, 2);
        x.show(0, 2, 0);
        x.show(0, 34, 1);
        x.let(33, 44);
        x.save(1);
        return x;
    }

    private void restoreEverything() {
        VillageCinema x = saved();
        for (int setting = 0; setting < 5; setting++) {
            x.set(setting, 18);
        }
        x.film(1, 1, 1, 21, 1);
        x.drop(34, 1);
        x.show(1, 1, 1);
        x.let(33, 0);
        x.let(2, 1);
        x.put(Checks.packed("0a2"));
        due("restore(1)", x.restore(1), 2);
        same("everything", Checks.stateOf(x), Checks.stateOf(saved()));
        due("the pad stays", x.count(13), 3);
        due("the history stays", x.count(14), 6);
        due("film 1 is gone", x.of(1, 0), NO_SUCH);
    }

    private void restoreIsChange() {
        VillageCinema x = busy();
        x.set(VillageCinema.PRICE, 20);
        x.restore(0);
        due("count(14)", x.count(14), 5);
        due("price 6", x.count(9), 6);
        due("undo()", x.undo(), 4);
        due("price 20", x.count(9), 20);
        due("undo() of the price", x.undo(), 3);
        due("price 6 again", x.count(9), 6);
    }

    private void restoreShows() {
        VillageCinema x = allShown();
        x.save(0);
        x.let(0, 1);
        x.save(1);
        due("all", x.restore(0), 70);
        due("all but two", x.restore(1), 68);
        due("count(1)", x.count(1), 68);
    }

    private void restoreEmptyHall() {
        VillageCinema x = new VillageCinema();
        due("save(0) of a new object", x.save(0), 0);
        x.film(0, 100, 0, 50, 0);
        x.show(0, 0, 0);
        x.let(1, 1);
        due("restore(0)", x.restore(0), 0);
        due("count(0)", x.count(0), 0);
        due("count(5)", x.count(5), MILLION);
        due("of(0, 0)", x.of(0, 0), NO_SUCH);
        due("show(0, 0, 0)", x.show(0, 0, 0), NO_SUCH);
        due("the next film is number 0", x.film(1, 2, 3, 24, 5), 0);
        due("its crowd", x.of(0, 1), 2);
    }
}
