/** A test for each sentence of "Terms" from undo on, and of the section behind the promises. */
final class TermsOfUndoSentences {
    private TermsOfUndoSentences() {
    }

    static void test() {
        Sentences.of("Terms");
        undo();
        exceptions();
        interfaceSays();
        notPromised();
    }

    private static void undo() {
        Sentences.test("The methods in the section \"actions\" change the state, which consists of everything but the text"
                + " and the saved states of the two slots.", () -> {
            RuleLists x = Samples.four();
            x.append('L');
            x.save(0);
            x.read(0);
            x.append('d');
            x.save(1);
            x.makeSteps(1, 1);
            x.undo();
            x.undo();
            Check.due("lists()", x.lists(), 4);
            Check.due("readings()", x.readings(), 0);
            Check.due("the reader", Look.reader(x, 0), "0 0 10");
            Check.due("errorPosition()", x.errorPosition(), -1);
            x.restore(1);
            Check.due("readings() of what was saved later", x.readings(), 1);
            x.restore(0);
            Check.due("readings() of what was saved first", x.readings(), 0);
            Check.due("clearText()", x.clearText(), 2);
        });
        Sentences.test("Before each action that does not throw an exception, the state is remembered,"
                + " also if nothing becomes different (undo is no action).", () -> {
            RuleLists x = new RuleLists();
            x.makeSteps(5, 5);
            x.beginReading(0);
            x.goBack(0);
            x.goBack(0);
            Check.due("undo() of what made no difference", x.undo(), 3);
            Check.due("undo() of what made no difference", x.undo(), 2);
            Check.due("undo()", x.undo(), 1);
            Check.due("readers()", x.readers(), 0);
            RuleLists y = Look.loaded("Ls99901r00n0");
            y.skip(0, 5);
            Check.nameOfThrown(() -> y.read(0));
            Check.nameOfThrown(y::dropLast);
            Check.due("undo() of a skip of none", y.undo(), 0);
            Check.due("readings()", y.readings(), 1);
        });
        Sentences.test("At most 14 states are remembered;", () -> {
            for (int actions = 12; actions <= 17; actions++) {
                RuleLists x = read(actions);
                Check.due("undo() after " + actions, x.undo(), Math.min(actions, 14) - 1);
                Check.due("undone in all", 1 + Look.undoAll(x), Math.min(actions, 14));
            }
        });
        Sentences.test("when one more is remembered, the oldest one is forgotten.", () -> {
            for (int actions : new int[] {14, 15, 16, 27, 28, 29, 30, 42, 43}) {
                RuleLists x = read(actions);
                for (int left = 13; left >= 0; left--) {
                    Check.due("undo() after " + actions, x.undo(), left);
                    Check.due("readSoFar(0)", x.readSoFar(0), actions - 14 + left);
                }
                Check.due("one more", Check.nameOfThrown(x::undo), IllegalStateException.class.getName());
                x.skip(0, 50);
                x.undo();
                Check.due("readSoFar(0) after the next undo()", x.readSoFar(0), actions - 14);
            }
            RuleLists y = read(20);
            y.undo();
            y.undo();
            y.skip(0, 50);
            y.skip(0, 50);
            y.skip(0, 50);
            Check.due("undone, with actions in the place of others", Look.undoAll(y), 14);
            Check.due("readSoFar(0), the oldest", y.readSoFar(0), 7);
        });
    }

    /** So many actions after a load; each one reads one member. */
    private static RuleLists read(int actions) {
        RuleLists x = Look.loaded("Ls00001r00");
        for (int times = 0; times < actions; times++) {
            x.read(0);
        }
        return x;
    }

    private static void exceptions() {
        Sentences.test("A call that throws an exception changes nothing.", Actions::refusedCallsChangeNothing);
        Sentences.test("If several exceptions apply to a call, the one that its description names first is thrown.",
                Actions::firstNamedIsThrown);
        Sentences.test("The constants: NONE = -1: There is no such result.", () -> {
            Check.due("NONE", RuleLists.NONE, -1);
            Check.due("leastNext() of a new object", new RuleLists().leastNext(), RuleLists.NONE);
        });
    }

    private static void interfaceSays() {
        Sentences.test("Ahead of the calls append, clearText, errorPosition, load the interface says: ---- text.",
                Actions::textCallsAreNoActions);
        Sentences.test("Ahead of the calls makeSteps, makeScaled, makeJoined, makeShared, makeWithout, makeSieved,"
                + " makeThinned, makeAddedUp, dropLast the interface says: ---- actions: lists.", () -> Actions.areActions(0, 9));
        Sentences.test("Ahead of the calls beginReading, read, skip, goBack, stopReading, undo the interface says:"
                + " ---- actions: readers.", () -> Actions.areActions(9, 14));
        Sentences.test("Ahead of the calls lists, isMember, memberByReading, memberByTesting, placeOf, membersUpTo, lastMember,"
                + " firstShared, widestGap the interface says: ---- lists and their members.", Actions::looksAtListsChangeNothing);
        Sentences.test("Ahead of the calls readers, listOf, readSoFar, nextOf, readings, leastNext the interface says:"
                + " ---- readers.", Actions::looksAtReadersChangeNothing);
        Sentences.test("Ahead of the calls firstOfPairByWalking, firstOfPairByCounting, numberOfPair the interface says:"
                + " ---- pairs by corners.", Actions::pairsChangeNothing);
        Sentences.test("Ahead of the calls whyNoDrop, membersIfJoined, skipsTo, simulate the interface says:"
                + " ---- what would be;", () -> {
            RuleLists x = Samples.rich();
            x.makeSteps(6, 6);
            Check.due("whyNoDrop(), and then dropLast()", x.whyNoDrop() + " " + x.dropLast(), "0 3");
            int joined = x.membersIfJoined(0, 2);
            Check.due("makeJoined(0, 2)", x.membersUpTo(x.makeJoined(0, 2), 999), joined);
            x.skip(0, x.skipsTo(0, 200));
            Check.due("nextOf(0)", x.nextOf(0), 201);
        });
        Sentences.test("these methods change nothing.", Actions::whatWouldBeChangesNothing);
        Sentences.test("Ahead of the calls save, restore the interface says: ---- slots.", Actions::slotCallsAreNoActions);
    }

    private static void notPromised() {
        Sentences.of("Not promised");
        Sentences.namesNoCase("How the state is held inside the object is free, as are the speed of each call, the text of"
                + " toString and the behaviour of equals and hashCode.");
        Sentences.namesNoCase("Use of one object from several threads at once is not promised to be safe.");
        Sentences.namesNoCase("Nothing is promised beyond the answers and state changes described above,"
                + " and nothing about an object after its 512th call.");
    }
}
