/** Promises 43 and 44: save, restore. */
public final class SlotsTest {
    public static void main(String[] args) {
        saveAndRestore();
        emptyObject();
        noSuchSlot();
        saveIsNoAction();
        Check.end();
    }

    private static void saveAndRestore() {
        RuleLists x = Look.loaded("Ls00101v00r01n0n0k003");
        String first = Look.state(x);
        Check.due("save(0)", x.save(0), 2);
        x.makeScaled(0, 5, 3);
        x.read(0);
        String second = Look.state(x);
        Check.due("save(1)", x.save(1), 3);
        x.stopReading(0);
        x.dropLast();
        x.dropLast();
        Check.due("restore(0)", x.restore(0), 2);
        Check.due("all after restore(0)", Look.state(x), first);
        Check.notNow("undo() after restore", x, x::undo);
        Check.due("restore(1)", x.restore(1), 3);
        Check.due("all after restore(1)", Look.state(x), second);
        x.read(0);
        x.makeAddedUp(0);
        Check.due("restore(1) again: the slot keeps it", x.restore(1), 3);
        Check.due("all after restore(1)", Look.state(x), second);
        x.dropLast();
        Check.due("save(1) over what was saved", x.save(1), 2);
        x.makeSteps(0, 1);
        Check.due("restore(1)", x.restore(1), 2);
        Check.due("restore(0)", x.restore(0), 2);
        Check.due("all after restore(0)", Look.state(x), first);
    }

    private static void emptyObject() {
        RuleLists x = new RuleLists();
        Check.due("save(1)", x.save(1), 0);
        x.makeSteps(3, 3);
        x.append('L');
        Check.notNow("restore(0)", x, () -> x.restore(0));
        Check.due("restore(1)", x.restore(1), 0);
        Check.due("lists()", x.lists(), 0);
        Check.due("the text stays", x.clearText(), 1);
    }

    private static void noSuchSlot() {
        RuleLists x = Look.loaded("Ls00101");
        x.save(0);
        x.save(1);
        Check.noSuch("save(-1)", x, () -> x.save(-1));
        Check.noSuch("save(2)", x, () -> x.save(2));
        Check.noSuch("restore(-1)", x, () -> x.restore(-1));
        Check.noSuch("restore(2)", x, () -> x.restore(2));
        RuleLists y = new RuleLists();
        Check.noSuch("restore(2) where nothing was saved", y, () -> y.restore(2));
        Check.noSuch("restore(least)", y, () -> y.restore(Integer.MIN_VALUE));
    }

    private static void saveIsNoAction() {
        RuleLists x = new RuleLists();
        x.makeSteps(1, 1);
        x.makeSteps(2, 1);
        x.save(0);
        Check.due("undo() after save takes back the action", x.undo(), 1);
        Check.due("lists()", x.lists(), 1);
        Check.due("undo() does not reach the slot", x.restore(0), 2);
        Check.notNow("undo() after restore", x, x::undo);
        x.makeSteps(9, 9);
        Check.due("undo()", x.undo(), 0);
        Check.due("lists()", x.lists(), 2);
    }
}
