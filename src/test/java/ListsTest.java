/** Promises 6 to 14: the makers of lists, and dropLast. */
public final class ListsTest {
    public static void main(String[] args) {
        steps();
        scaled();
        joined();
        shared();
        without();
        sieved();
        thinned();
        addedUp();
        atMostTwelve();
        dropLast();
        Check.end();
    }

    private static void steps() {
        RuleLists x = new RuleLists();
        Check.due("makeSteps(0, 99)", x.makeSteps(0, 99), 0);
        Check.due("its members", Look.members(x, 0), " 0 99 198 297 396 495 594 693 792 891 990");
        Check.due("makeSteps(999, 1)", x.makeSteps(999, 1), 1);
        Check.due("its members", Look.members(x, 1), " 999");
        Check.due("makeSteps(900, 99)", x.makeSteps(900, 99), 2);
        Check.due("its members", Look.members(x, 2), " 900 999");
        Check.due("makeSteps(0, 1)", x.makeSteps(0, 1), 3);
        Check.due("the number of its members", x.membersUpTo(3, 999), 1000);
        Check.outOfRange("makeSteps(-1, 1)", x, () -> x.makeSteps(-1, 1));
        Check.outOfRange("makeSteps(1000, 1)", x, () -> x.makeSteps(1000, 1));
        Check.outOfRange("makeSteps(0, 0)", x, () -> x.makeSteps(0, 0));
        Check.outOfRange("makeSteps(0, 100)", x, () -> x.makeSteps(0, 100));
        Check.outOfRange("makeSteps(least, greatest)", x, () -> x.makeSteps(Integer.MIN_VALUE, Integer.MAX_VALUE));
        Check.due("states that are remembered", Look.undoAll(x), 4);
    }

    private static void scaled() {
        RuleLists x = new RuleLists();
        x.makeSteps(0, 50);
        Check.due("makeScaled(0, 9, 99)", x.makeScaled(0, 9, 99), 1);
        Check.due("its members", Look.members(x, 1), " 99 549 999");
        Check.due("makeScaled(0, 1, 0)", x.makeScaled(0, 1, 0), 2);
        Check.due("its members", Look.members(x, 2), Look.members(x, 0));
        Check.due("makeScaled(1, 2, 1)", x.makeScaled(1, 2, 1), 3);
        Check.due("its members", Look.members(x, 3), " 199");
        Check.due("makeScaled(3, 9, 0)", x.makeScaled(3, 9, 0), 4);
        Check.due("its members", Look.members(x, 4), "");
        Check.due("makeScaled(4, 1, 5)", x.makeScaled(4, 1, 5), 5);
        Check.due("its members", Look.members(x, 5), "");
        x.makeSteps(0, 1);
        Check.due("makeScaled(6, 1, 0)", x.makeScaled(6, 1, 0), 7);
        Check.due("its members, all numbers", x.membersUpTo(7, 999), 1000);
        Check.due("makeScaled(6, 3, 1)", x.makeScaled(6, 3, 1), 8);
        Check.due("its members, 1 to 997", x.membersUpTo(8, 999), 333);
        Check.noSuch("makeScaled(9, 1, 0)", x, () -> x.makeScaled(9, 1, 0));
        Check.noSuch("makeScaled(-1, 0, 100)", x, () -> x.makeScaled(-1, 0, 100));
        Check.outOfRange("makeScaled(0, 0, 0)", x, () -> x.makeScaled(0, 0, 0));
        Check.outOfRange("makeScaled(0, 10, 0)", x, () -> x.makeScaled(0, 10, 0));
        Check.outOfRange("makeScaled(0, 1, -1)", x, () -> x.makeScaled(0, 1, -1));
        Check.outOfRange("makeScaled(0, 1, 100)", x, () -> x.makeScaled(0, 1, 100));
        Check.due("states that are remembered", Look.undoAll(x), 9);
    }

    private static void joined() {
        RuleLists x = Look.loaded("Ls90050s92503s99901");
        Check.due("makeJoined(0, 1)", x.makeJoined(0, 1), 3);
        Check.due("membersUpTo(3, 930)", x.membersUpTo(3, 930), 3);
        Check.due("memberByReading(3, 0)", x.memberByReading(3, 0), 900);
        Check.due("makeJoined(0, 2)", x.makeJoined(0, 2), 4);
        Check.due("its members", Look.members(x, 4), " 900 950 999");
        Check.due("makeJoined(2, 0)", x.makeJoined(2, 0), 5);
        Check.due("its members", Look.members(x, 5), " 900 950 999");
        Check.due("makeJoined(4, 0)", x.makeJoined(4, 0), 6);
        Check.due("its members, each once", Look.members(x, 6), " 900 950 999");
        Check.due("makeJoined(0, 0)", x.makeJoined(0, 0), 7);
        Check.due("its members", Look.members(x, 7), " 900 950");
        Check.noSuch("makeJoined(8, 0)", x, () -> x.makeJoined(8, 0));
        Check.noSuch("makeJoined(0, 8)", x, () -> x.makeJoined(0, 8));
        Check.noSuch("makeJoined(-1, 0)", x, () -> x.makeJoined(-1, 0));
        Check.noSuch("makeJoined(0, -1)", x, () -> x.makeJoined(0, -1));
        Check.due("states that are remembered", Look.undoAll(x), 5);
    }

    private static void shared() {
        RuleLists x = Look.loaded("Ls00099s09966s00101");
        Check.due("makeShared(0, 1)", x.makeShared(0, 1), 3);
        Check.due("its members", Look.members(x, 3), " 99 297 495 693 891");
        Check.due("makeShared(2, 0)", x.makeShared(2, 0), 4);
        Check.due("its members", Look.members(x, 4), " 99 198 297 396 495 594 693 792 891 990");
        Check.due("makeShared(1, 1)", x.makeShared(1, 1), 5);
        Check.due("its members", Look.members(x, 5), Look.members(x, 1));
        Check.noSuch("makeShared(6, 0)", x, () -> x.makeShared(6, 0));
        Check.noSuch("makeShared(0, 6)", x, () -> x.makeShared(0, 6));
        Check.noSuch("makeShared(-1, -1)", x, () -> x.makeShared(-1, -1));
        Check.due("states that are remembered", Look.undoAll(x), 3);
    }

    private static void without() {
        RuleLists x = Look.loaded("Ls00099s09966s00101");
        Check.due("makeWithout(0, 1)", x.makeWithout(0, 1), 3);
        Check.due("its members", Look.members(x, 3), " 0 198 396 594 792 990");
        Check.due("makeWithout(0, 2)", x.makeWithout(0, 2), 4);
        Check.due("its members", Look.members(x, 4), " 0");
        Check.due("makeWithout(0, 0)", x.makeWithout(0, 0), 5);
        Check.due("its members", Look.members(x, 5), "");
        Check.due("makeWithout(4, 5)", x.makeWithout(4, 5), 6);
        Check.due("its members", Look.members(x, 6), " 0");
        Check.noSuch("makeWithout(7, 0)", x, () -> x.makeWithout(7, 0));
        Check.noSuch("makeWithout(0, 7)", x, () -> x.makeWithout(0, 7));
        Check.noSuch("makeWithout(0, -1)", x, () -> x.makeWithout(0, -1));
        Check.due("states that are remembered", Look.undoAll(x), 4);
    }

    private static void sieved() {
        RuleLists x = Look.loaded("Ls00201s00001s00003s00402x03101");
        Check.due("makeSieved(0)", x.makeSieved(0), 5);
        Check.due("primes", x.membersUpTo(5, 999), 168);
        Check.due("the last prime", x.lastMember(5), 997);
        Check.due("the 25th prime", x.memberByReading(5, 24), 97);
        Check.due("makeSieved(1)", x.makeSieved(1), 6);
        // 0 and 1 are kept, and strike out nothing.
        Check.due("primes and 0 and 1", x.membersUpTo(6, 999), 170);
        Check.due("makeSieved(2)", x.makeSieved(2), 7);
        Check.due("0 and 3", Look.members(x, 7), " 0 3");
        Check.due("makeSieved(3)", x.makeSieved(3), 8);
        // 10 is kept though 2 divides it: 2 is no member; 12 is struck out by 4, 20 by 4 and 10.
        Check.due("4, 6, 10, 14, 22", x.membersUpTo(8, 25), 5);
        Check.due("isMember(8, 10)", x.isMember(8, 10), true);
        Check.due("isMember(8, 12)", x.isMember(8, 12), false);
        Check.due("makeSieved(4)", x.makeSieved(4), 9);
        Check.due("isMember(9, 9)", x.isMember(9, 9), true);
        Check.due("isMember(9, 25)", x.isMember(9, 25), false);
        Check.due("isMember(9, 999)", x.isMember(9, 999), false);
        Check.noSuch("makeSieved(10)", x, () -> x.makeSieved(10));
        Check.noSuch("makeSieved(-1)", x, () -> x.makeSieved(-1));
        Check.due("states that are remembered", Look.undoAll(x), 5);
    }

    private static void thinned() {
        RuleLists x = Look.loaded("Ls00099");
        Check.due("makeThinned(0, 1)", x.makeThinned(0, 1), 1);
        Check.due("its members", Look.members(x, 1), Look.members(x, 0));
        Check.due("makeThinned(0, 2)", x.makeThinned(0, 2), 2);
        Check.due("its members", Look.members(x, 2), " 99 297 495 693 891");
        Check.due("makeThinned(0, 9)", x.makeThinned(0, 9), 3);
        Check.due("its members", Look.members(x, 3), " 792");
        Check.due("makeThinned(3, 2)", x.makeThinned(3, 2), 4);
        Check.due("its members", Look.members(x, 4), "");
        x.makeSteps(0, 1);
        Check.due("makeThinned(5, 8)", x.makeThinned(5, 8), 6);
        Check.due("its members", x.membersUpTo(6, 999), 125);
        Check.due("the last one", x.lastMember(6), 999);
        Check.noSuch("makeThinned(7, 0)", x, () -> x.makeThinned(7, 0));
        Check.noSuch("makeThinned(-1, 1)", x, () -> x.makeThinned(-1, 1));
        Check.outOfRange("makeThinned(0, 0)", x, () -> x.makeThinned(0, 0));
        Check.outOfRange("makeThinned(0, 10)", x, () -> x.makeThinned(0, 10));
        Check.outOfRange("makeThinned(0, -2)", x, () -> x.makeThinned(0, -2));
        Check.due("states that are remembered", Look.undoAll(x), 6);
    }

    private static void addedUp() {
        RuleLists x = Look.loaded("Ls00099s99901s00101s00001");
        Check.due("makeAddedUp(0)", x.makeAddedUp(0), 4);
        Check.due("its members", Look.members(x, 4), " 0 99 297 594 990");
        Check.due("makeAddedUp(1)", x.makeAddedUp(1), 5);
        Check.due("its members", Look.members(x, 5), " 999");
        Check.due("makeAddedUp(2)", x.makeAddedUp(2), 6);
        Check.due("triangles", x.membersUpTo(6, 999), 44);
        Check.due("the last one", x.lastMember(6), 990);
        Check.due("makeAddedUp(3)", x.makeAddedUp(3), 7);
        Check.due("triangles and 0", x.membersUpTo(7, 999), 45);
        Check.due("makeWithout(0, 0)", x.makeWithout(0, 0), 8);
        Check.due("makeAddedUp(8)", x.makeAddedUp(8), 9);
        Check.due("its members", Look.members(x, 9), "");
        Check.noSuch("makeAddedUp(10)", x, () -> x.makeAddedUp(10));
        Check.noSuch("makeAddedUp(-1)", x, () -> x.makeAddedUp(-1));
        Check.due("states that are remembered", Look.undoAll(x), 6);
    }

    private static void atMostTwelve() {
        RuleLists x = new RuleLists();
        for (int list = 0; list < 12; list++) {
            Check.due("makeSteps", x.makeSteps(list, 1), list);
        }
        Check.notNow("makeSteps, a 13th list", x, () -> x.makeSteps(0, 1));
        Check.notNow("makeScaled, a 13th list", x, () -> x.makeScaled(0, 1, 0));
        Check.notNow("makeJoined, a 13th list", x, () -> x.makeJoined(0, 11));
        Check.notNow("makeShared, a 13th list", x, () -> x.makeShared(0, 11));
        Check.notNow("makeWithout, a 13th list", x, () -> x.makeWithout(0, 11));
        Check.notNow("makeSieved, a 13th list", x, () -> x.makeSieved(11));
        Check.notNow("makeThinned, a 13th list", x, () -> x.makeThinned(11, 1));
        Check.notNow("makeAddedUp, a 13th list", x, () -> x.makeAddedUp(11));
        Check.outOfRange("makeSteps(1000, 1), a 13th list", x, () -> x.makeSteps(1000, 1));
        Check.noSuch("makeScaled(12, 10, 0), a 13th list", x, () -> x.makeScaled(12, 10, 0));
        Check.outOfRange("makeScaled(0, 10, 0), a 13th list", x, () -> x.makeScaled(0, 10, 0));
        Check.noSuch("makeJoined(0, 12), a 13th list", x, () -> x.makeJoined(0, 12));
        Check.noSuch("makeShared(12, 0), a 13th list", x, () -> x.makeShared(12, 0));
        Check.noSuch("makeWithout(0, 12), a 13th list", x, () -> x.makeWithout(0, 12));
        Check.noSuch("makeSieved(12), a 13th list", x, () -> x.makeSieved(12));
        Check.noSuch("makeThinned(12, 0), a 13th list", x, () -> x.makeThinned(12, 0));
        Check.outOfRange("makeThinned(0, 0), a 13th list", x, () -> x.makeThinned(0, 0));
        Check.noSuch("makeAddedUp(12), a 13th list", x, () -> x.makeAddedUp(12));
        Check.due("states that are remembered", Look.undoAll(x), 12);
    }

    private static void dropLast() {
        RuleLists x = Look.loaded("Ls00101s00099s99901");
        Check.due("dropLast()", x.dropLast(), 2);
        Check.due("makeSteps(998, 1)", x.makeSteps(998, 1), 2);
        Check.due("nothing is left of the dropped list", Look.members(x, 2), " 998 999");
        Check.due("dropLast()", x.dropLast(), 2);
        x.beginReading(1);
        Check.notNow("dropLast() of a list that is read", x, x::dropLast);
        x.stopReading(0);
        x.beginReading(0);
        Check.due("dropLast() beside a list that is read", x.dropLast(), 1);
        Check.notNow("dropLast() of a list that is read", x, x::dropLast);
        x.stopReading(0);
        Check.due("dropLast()", x.dropLast(), 0);
        Check.notNow("dropLast() without lists", x, x::dropLast);
        Check.due("undo()", x.undo(), 8);
        Check.due("the list is there again", x.membersUpTo(0, 999), 999);
    }
}
