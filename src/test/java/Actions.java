import java.util.List;
import java.util.function.Consumer;
import java.util.function.Supplier;

/** What all actions have in common, and what no other call may do. */
final class Actions {
    interface Action {
        int call(RuleLists x);
    }

    /** Each method of the two sections "actions" but undo, with what can be done in a rich sample. */
    static final List<Action> ALL = List.of(
            x -> x.makeSteps(3, 3),
            x -> x.makeScaled(0, 2, 1),
            x -> x.makeJoined(0, 1),
            x -> x.makeShared(0, 1),
            x -> x.makeWithout(0, 1),
            x -> x.makeSieved(0),
            x -> x.makeThinned(0, 2),
            x -> x.makeAddedUp(0),
            RuleLists::dropLast,
            x -> x.beginReading(2),
            x -> x.read(0),
            x -> x.skip(1, 2),
            x -> x.goBack(0),
            x -> x.stopReading(0));

    private static final int REMEMBERED = 3;

    private Actions() {
    }

    /** Each of these actions is remembered once; when it is refused, or undone, it is not. */
    static void areActions(int from, int to) {
        for (int number = from; number < to; number++) {
            Action action = ALL.get(number);
            RuleLists x = Samples.rich();
            String before = Look.state(x);
            action.call(x);
            Check.due("states after the action " + number, Look.undoAll(x), REMEMBERED + 1);
            RuleLists y = Samples.rich();
            action.call(y);
            Check.due("undo()", y.undo(), REMEMBERED);
            Check.due("the state after undo()", Look.state(y), before);
            Check.due("states after undo() of the action " + number, Look.undoAll(y), REMEMBERED);
        }
        RuleLists full = Samples.full();
        Check.due("a 13th list", Check.nameOfThrown(() -> full.makeSteps(1, 1)), IllegalStateException.class.getName());
        Check.due("undo() after it was refused", full.undo(), 13);
    }

    static void textCallsAreNoActions() {
        RuleLists x = Samples.rich();
        String before = Look.state(x);
        x.append('d');
        x.errorPosition();
        x.clearText();
        Check.due("the state", Look.state(x), before);
        Check.due("states that are remembered", Look.undoAll(x), REMEMBERED);
        RuleLists y = Samples.rich();
        y.load();
        Check.due("states that are remembered after load()", Look.undoAll(y), 0);
    }

    static void slotCallsAreNoActions() {
        RuleLists x = Samples.rich();
        String before = Look.state(x);
        x.save(1);
        Check.due("the state", Look.state(x), before);
        Check.due("states that are remembered after save()", Look.undoAll(x), REMEMBERED);
        x.restore(1);
        Check.due("states that are remembered after restore()", Look.undoAll(x), 0);
    }

    static void looksAtListsChangeNothing() {
        changesNothing(x -> {
            x.lists();
            x.isMember(0, 7);
            x.memberByReading(1, 2);
            x.memberByTesting(1, 2);
            x.placeOf(0, 7);
            x.membersUpTo(0, 7);
            x.lastMember(2);
            x.firstShared(0, 1);
            x.widestGap(2);
        });
    }

    static void looksAtReadersChangeNothing() {
        changesNothing(x -> {
            x.readers();
            x.listOf(0);
            x.readSoFar(1);
            x.nextOf(0);
            x.readings();
            x.leastNext();
        });
    }

    static void pairsChangeNothing() {
        changesNothing(x -> {
            x.firstOfPairByWalking(77);
            x.firstOfPairByCounting(77);
            x.numberOfPair(7, 7);
        });
    }

    static void whatWouldBeChangesNothing() {
        changesNothing(RuleLists::whyNoDrop);
        changesNothing(x -> x.membersIfJoined(0, 1));
        changesNothing(x -> x.skipsTo(0, 100));
        changesNothing(x -> x.simulate(11, 60));
        changesNothing(x -> x.simulate(-12345678901L, 60));
    }

    private static void changesNothing(Consumer<RuleLists> calls) {
        for (Supplier<RuleLists> made : List.<Supplier<RuleLists>>of(Samples::rich, Samples::full)) {
            RuleLists x = made.get();
            calls.accept(x);
            Check.due("all after the calls", Look.whole(x), Look.whole(made.get()));
            RuleLists y = made.get();
            calls.accept(y);
            Check.due("states that are remembered after the calls", Look.undoAll(y), Look.undoAll(made.get()));
        }
    }

    /** Each exception of each call, where there is much that could be changed. */
    static void refusedCallsChangeNothing() {
        Supplier<RuleLists> full = Samples::full;
        Refusals.outOfRange(full, x -> x.append(256));
        Refusals.notNow(Actions::fullText, x -> x.append('d'));
        Refusals.notNow(Actions::wrongText, RuleLists::load);
        refusedMakersChangeNothing(full);
        refusedReadersChangeNothing(full);
        refusedLooksChangeNothing(full);
        Refusals.outOfRange(full, x -> x.firstOfPairByWalking(100000));
        Refusals.outOfRange(full, x -> x.firstOfPairByCounting(-1));
        Refusals.outOfRange(full, x -> x.numberOfPair(0, 201));
        Refusals.noSuch(full, x -> x.membersIfJoined(0, 12));
        Refusals.noSuch(full, x -> x.skipsTo(4, 0));
        Refusals.outOfRange(full, x -> x.skipsTo(0, 1000));
        Refusals.outOfRange(full, x -> x.simulate(1, 61));
        Refusals.noSuch(full, x -> x.save(2));
        Refusals.noSuch(full, x -> x.restore(2));
        Refusals.notNow(Samples::four, x -> x.restore(0));
    }

    private static void refusedMakersChangeNothing(Supplier<RuleLists> full) {
        Refusals.outOfRange(Samples::rich, x -> x.makeSteps(0, 100));
        Refusals.notNow(full, x -> x.makeSteps(0, 1));
        Refusals.noSuch(Samples::rich, x -> x.makeScaled(3, 1, 0));
        Refusals.outOfRange(Samples::rich, x -> x.makeScaled(0, 1, 100));
        Refusals.notNow(full, x -> x.makeScaled(0, 1, 0));
        Refusals.noSuch(Samples::rich, x -> x.makeJoined(0, 3));
        Refusals.notNow(full, x -> x.makeJoined(0, 1));
        Refusals.noSuch(Samples::rich, x -> x.makeShared(0, 3));
        Refusals.notNow(full, x -> x.makeShared(0, 1));
        Refusals.noSuch(Samples::rich, x -> x.makeWithout(0, 3));
        Refusals.notNow(full, x -> x.makeWithout(0, 1));
        Refusals.noSuch(Samples::rich, x -> x.makeSieved(3));
        Refusals.notNow(full, x -> x.makeSieved(0));
        Refusals.noSuch(Samples::rich, x -> x.makeThinned(3, 1));
        Refusals.outOfRange(Samples::rich, x -> x.makeThinned(0, 10));
        Refusals.notNow(full, x -> x.makeThinned(0, 1));
        Refusals.noSuch(Samples::rich, x -> x.makeAddedUp(3));
        Refusals.notNow(full, x -> x.makeAddedUp(0));
        Refusals.notNow(full, RuleLists::dropLast);
    }

    private static void refusedReadersChangeNothing(Supplier<RuleLists> full) {
        Refusals.noSuch(Samples::rich, x -> x.beginReading(3));
        Refusals.notNow(full, x -> x.beginReading(0));
        Refusals.noSuch(Samples::rich, x -> x.read(2));
        Refusals.notNow(full, x -> x.read(1));
        Refusals.noSuch(Samples::rich, x -> x.skip(2, 1));
        Refusals.outOfRange(full, x -> x.skip(0, 100));
        Refusals.noSuch(Samples::rich, x -> x.goBack(2));
        Refusals.noSuch(Samples::rich, x -> x.stopReading(2));
        Refusals.notNow(Actions::undone, RuleLists::undo);
    }

    private static void refusedLooksChangeNothing(Supplier<RuleLists> full) {
        Refusals.noSuch(full, x -> x.isMember(12, 0));
        Refusals.outOfRange(full, x -> x.isMember(0, 1000));
        Refusals.noSuch(full, x -> x.memberByReading(0, -1));
        Refusals.noSuch(full, x -> x.memberByTesting(0, -1));
        Refusals.noSuch(full, x -> x.placeOf(12, 0));
        Refusals.outOfRange(full, x -> x.placeOf(0, 1000));
        Refusals.noSuch(full, x -> x.membersUpTo(12, 0));
        Refusals.outOfRange(full, x -> x.membersUpTo(0, 1000));
        Refusals.noSuch(full, x -> x.lastMember(12));
        Refusals.noSuch(full, x -> x.firstShared(12, 0));
        Refusals.noSuch(full, x -> x.widestGap(12));
        Refusals.noSuch(full, x -> x.listOf(4));
        Refusals.noSuch(full, x -> x.readSoFar(4));
        Refusals.noSuch(full, x -> x.nextOf(4));
    }

    static void firstNamedIsThrown() {
        Refusals.outOfRange(Actions::fullText, x -> x.append(256));
        Refusals.outOfRange(Samples::full, x -> x.makeSteps(1000, 1));
        Refusals.outOfRange(Samples::full, x -> x.makeSteps(0, 0));
        Refusals.noSuch(Samples::full, x -> x.makeScaled(12, 0, 0));
        Refusals.noSuch(Samples::full, x -> x.makeScaled(12, 1, 0));
        Refusals.noSuch(Samples::rich, x -> x.makeScaled(3, 1, 100));
        Refusals.outOfRange(Samples::full, x -> x.makeScaled(0, 10, 0));
        Refusals.outOfRange(Samples::full, x -> x.makeScaled(0, 1, -1));
        Refusals.noSuch(Samples::full, x -> x.makeJoined(12, 0));
        Refusals.noSuch(Samples::full, x -> x.makeJoined(0, -1));
        Refusals.noSuch(Samples::full, x -> x.makeShared(12, 0));
        Refusals.noSuch(Samples::full, x -> x.makeShared(0, -1));
        Refusals.noSuch(Samples::full, x -> x.makeWithout(12, 0));
        Refusals.noSuch(Samples::full, x -> x.makeWithout(0, -1));
        Refusals.noSuch(Samples::full, x -> x.makeSieved(12));
        Refusals.noSuch(Samples::full, x -> x.makeThinned(12, 0));
        Refusals.noSuch(Samples::full, x -> x.makeThinned(12, 1));
        Refusals.outOfRange(Samples::full, x -> x.makeThinned(0, 10));
        Refusals.noSuch(Samples::full, x -> x.makeAddedUp(-1));
        Refusals.noSuch(Samples::full, x -> x.beginReading(12));
        Refusals.noSuch(Samples::full, x -> x.skip(4, 0));
        Refusals.noSuch(Samples::full, x -> x.isMember(12, 1000));
        Refusals.noSuch(Samples::full, x -> x.placeOf(12, -1));
        Refusals.noSuch(Samples::full, x -> x.membersUpTo(-1, 1000));
        Refusals.noSuch(Samples::full, x -> x.skipsTo(4, 1000));
        Refusals.noSuch(Samples::four, x -> x.restore(2));
    }

    private static RuleLists fullText() {
        RuleLists x = Samples.full();
        Look.write(x, "d".repeat(112));
        return x;
    }

    private static RuleLists wrongText() {
        RuleLists x = Samples.full();
        x.append('4');
        return x;
    }

    private static RuleLists undone() {
        RuleLists x = Samples.full();
        Look.undoAll(x);
        return x;
    }
}
