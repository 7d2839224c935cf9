/** Promises 15 to 20 and 30 to 35: what readers do, undo, and what can be seen of the readers. */
public final class ReadersTest {
    public static void main(String[] args) {
        beginReading();
        read();
        skip();
        goBack();
        stopReading();
        undo();
        undoForgetsTheOldest();
        lookAtReaders();
        readings();
        leastNext();
        Check.end();
    }

    private static void beginReading() {
        RuleLists x = Look.loaded("Ls00101s00501");
        Check.due("beginReading(1)", x.beginReading(1), 0);
        Check.due("beginReading(0)", x.beginReading(0), 1);
        Check.noSuch("beginReading(2)", x, () -> x.beginReading(2));
        Check.noSuch("beginReading(-1)", x, () -> x.beginReading(-1));
        Check.due("beginReading(1)", x.beginReading(1), 2);
        Check.due("beginReading(1)", x.beginReading(1), 3);
        Check.notNow("beginReading(1), a 5th reader", x, () -> x.beginReading(1));
        Check.noSuch("beginReading(2), a 5th reader", x, () -> x.beginReading(2));
        Check.due("reader 3", Look.reader(x, 3), "1 0 5");
        Check.due("states that are remembered", Look.undoAll(x), 4);
    }

    private static void read() {
        RuleLists x = Look.loaded("Ls00099r00r00w0000r01");
        Check.due("read(0)", x.read(0), 0);
        Check.due("read(0)", x.read(0), 99);
        Check.due("read(1)", x.read(1), 0);
        for (int member = 198; member <= 990; member += 99) {
            Check.due("read(0)", x.read(0), member);
        }
        Check.notNow("read(0) at the end", x, () -> x.read(0));
        Check.notNow("read(2) of an empty list", x, () -> x.read(2));
        Check.noSuch("read(3)", x, () -> x.read(3));
        Check.noSuch("read(-1)", x, () -> x.read(-1));
        Check.due("read(1)", x.read(1), 99);
        Check.due("readings()", x.readings(), 13);
        Check.due("states that are remembered", Look.undoAll(x), 13);
    }

    private static void skip() {
        RuleLists x = Look.loaded("Ls00001r00s90001r01");
        Check.due("skip(0, 1)", x.skip(0, 1), 1);
        Check.due("skip(0, 99)", x.skip(0, 99), 99);
        Check.due("nextOf(0)", x.nextOf(0), 100);
        Check.due("skip(1, 99)", x.skip(1, 99), 99);
        Check.due("skip(1, 2), as many as there are", x.skip(1, 2), 1);
        Check.due("skip(1, 1), where there are none", x.skip(1, 1), 0);
        Check.due("readSoFar(1)", x.readSoFar(1), 100);
        Check.due("readings()", x.readings(), 0);
        Check.outOfRange("skip(0, 0)", x, () -> x.skip(0, 0));
        Check.outOfRange("skip(0, 100)", x, () -> x.skip(0, 100));
        Check.outOfRange("skip(1, 0)", x, () -> x.skip(1, 0));
        Check.noSuch("skip(2, 0)", x, () -> x.skip(2, 0));
        Check.noSuch("skip(-1, 1)", x, () -> x.skip(-1, 1));
        // Also the skip that came to nothing is remembered.
        Check.due("states that are remembered", Look.undoAll(x), 5);
    }

    private static void goBack() {
        RuleLists x = Look.loaded("Ls01007r00r00");
        x.read(0);
        x.skip(0, 5);
        x.read(1);
        Check.due("goBack(0)", x.goBack(0), 6);
        Check.due("reader 0", Look.reader(x, 0), "0 0 10");
        Check.due("reader 1", Look.reader(x, 1), "0 1 17");
        Check.due("goBack(0) again", x.goBack(0), 0);
        Check.due("read(0)", x.read(0), 10);
        Check.due("readings()", x.readings(), 3);
        Check.noSuch("goBack(2)", x, () -> x.goBack(2));
        Check.noSuch("goBack(-1)", x, () -> x.goBack(-1));
        Check.due("states that are remembered", Look.undoAll(x), 6);
    }

    private static void stopReading() {
        RuleLists x = Look.loaded("Ls00001s00101s00201s00301r00r01r02r03n1n3k202");
        Check.due("stopReading(1)", x.stopReading(1), 3);
        Check.due("reader 0", Look.reader(x, 0), "0 0 0");
        Check.due("reader 1", Look.reader(x, 1), "2 2 4");
        Check.due("reader 2", Look.reader(x, 2), "3 1 4");
        Check.noSuch("stopReading(3)", x, () -> x.stopReading(3));
        Check.noSuch("stopReading(-1)", x, () -> x.stopReading(-1));
        Check.due("beginReading(1)", x.beginReading(1), 3);
        Check.due("reader 3", Look.reader(x, 3), "1 0 1");
        Check.due("stopReading(3)", x.stopReading(3), 3);
        Check.due("stopReading(0)", x.stopReading(0), 2);
        Check.due("reader 0", Look.reader(x, 0), "2 2 4");
        Check.due("reader 1", Look.reader(x, 1), "3 1 4");
        Check.due("stopReading(1)", x.stopReading(1), 1);
        Check.due("stopReading(0)", x.stopReading(0), 0);
        Check.noSuch("stopReading(0)", x, () -> x.stopReading(0));
        Check.due("readings() stay", x.readings(), 2);
        Check.due("undo()", x.undo(), 5);
        Check.due("reader 0 is there again", Look.reader(x, 0), "2 2 4");
    }

    private static void undo() {
        RuleLists x = new RuleLists();
        Check.notNow("undo()", x, x::undo);
        x.makeSteps(4, 4);
        x.beginReading(0);
        x.read(0);
        x.makeSieved(0);
        String before = Look.state(x);
        x.skip(0, 3);
        x.goBack(0);
        Check.due("undo()", x.undo(), 5);
        Check.due("undo()", x.undo(), 4);
        Check.due("all after undo", Look.state(x), before);
        Check.due("undo()", x.undo(), 3);
        Check.due("lists()", x.lists(), 1);
        x.append('L');
        Check.due("undo()", x.undo(), 2);
        Check.due("readings()", x.readings(), 0);
        Check.due("reader 0", Look.reader(x, 0), "0 0 4");
        Check.due("undo()", x.undo(), 1);
        Check.due("readers()", x.readers(), 0);
        Check.due("undo()", x.undo(), 0);
        Check.due("lists()", x.lists(), 0);
        Check.notNow("undo()", x, x::undo);
        Check.due("the text stays", x.clearText(), 1);
    }

    private static void undoForgetsTheOldest() {
        RuleLists x = Look.loaded("Ls00001r00");
        for (int times = 0; times < 31; times++) {
            x.read(0);
        }
        for (int left = 13; left >= 0; left--) {
            Check.due("undo()", x.undo(), left);
            Check.due("nextOf(0)", x.nextOf(0), 17 + left);
        }
        Check.notNow("undo()", x, x::undo);
        x.read(0);
        Check.due("undo() after one more action", x.undo(), 0);
        Check.due("nextOf(0)", x.nextOf(0), 17);
    }

    private static void lookAtReaders() {
        RuleLists x = Look.loaded("Ls00101s99801r01r00r01");
        Check.due("readers()", x.readers(), 3);
        Check.due("listOf(0)", x.listOf(0), 1);
        Check.due("listOf(1)", x.listOf(1), 0);
        x.read(0);
        x.skip(2, 9);
        Check.due("readSoFar(0)", x.readSoFar(0), 1);
        Check.due("readSoFar(1)", x.readSoFar(1), 0);
        Check.due("readSoFar(2)", x.readSoFar(2), 2);
        Check.due("nextOf(0)", x.nextOf(0), 999);
        Check.due("nextOf(1)", x.nextOf(1), 1);
        Check.due("nextOf(2)", x.nextOf(2), RuleLists.NONE);
        Check.noSuch("listOf(3)", x, () -> x.listOf(3));
        Check.noSuch("listOf(-1)", x, () -> x.listOf(-1));
        Check.noSuch("readSoFar(3)", x, () -> x.readSoFar(3));
        Check.noSuch("readSoFar(-1)", x, () -> x.readSoFar(-1));
        Check.noSuch("nextOf(3)", x, () -> x.nextOf(3));
        Check.noSuch("nextOf(-1)", x, () -> x.nextOf(-1));
        Check.due("looking is no action", x.undo(), 1);
    }

    private static void readings() {
        RuleLists x = Look.loaded("Ls99801r00r00n0");
        Check.due("readings()", x.readings(), 1);
        x.read(1);
        x.read(1);
        Check.notNow("read(1)", x, () -> x.read(1));
        x.skip(0, 1);
        x.goBack(0);
        Check.due("readings(), without what is skipped", x.readings(), 3);
        x.stopReading(1);
        Check.due("readings() of a reader that stopped", x.readings(), 3);
        x.read(0);
        Check.due("readings(), the same member again", x.readings(), 4);
        x.undo();
        Check.due("readings() after undo", x.readings(), 3);
    }

    private static void leastNext() {
        RuleLists x = Look.loaded("Ls00201s00301w0000");
        Check.due("leastNext() without readers", x.leastNext(), RuleLists.NONE);
        x.beginReading(2);
        Check.due("leastNext() of an empty list", x.leastNext(), RuleLists.NONE);
        x.beginReading(1);
        Check.due("leastNext()", x.leastNext(), 1);
        x.beginReading(0);
        Check.due("leastNext()", x.leastNext(), 2);
        x.read(2);
        Check.due("leastNext(), of several the lowest", x.leastNext(), 1);
        x.read(1);
        Check.due("leastNext()", x.leastNext(), 2);
        RuleLists y = Look.loaded("Ls99901s00001r00r01");
        y.read(0);
        Check.due("leastNext() comes to 0", y.leastNext(), 1);
        RuleLists z = Look.loaded("Ls99901r00");
        Check.due("leastNext() comes to 999", z.leastNext(), 0);
    }
}
