/** A test for each sentence of promises 15 to 20. */
final class ReaderActionSentences {
    private ReaderActionSentences() {
    }

    static void test() {
        beginReading();
        read();
        skip();
        goBack();
        stopReading();
        undo();
    }

    private static void beginReading() {
        Sentences.of("Promise 15: beginReading");
        Sentences.test("A reader begins.", () -> {
            RuleLists x = Look.loaded("Ls03005s04005");
            x.beginReading(1);
            Check.due("readers()", x.readers(), 1);
            Check.due("the reader", Look.reader(x, 0), "1 0 40");
        });
        Sentences.test("list: number of a list", () -> {
            RuleLists x = Samples.eleven();
            x.makeSteps(911, 1);
            x.beginReading(0);
            x.beginReading(11);
            Check.due("the reader of the first list", Look.reader(x, 0), "0 0 900");
            Check.due("the reader of the last list", Look.reader(x, 1), "11 0 911");
        });
        Sentences.test("Returns the number of the reader.", () -> {
            RuleLists x = Look.loaded("Ls03005");
            for (int number = 0; number < 4; number++) {
                Check.due("beginReading(0)", x.beginReading(0), number);
            }
            x.stopReading(1);
            Check.due("beginReading(0) after one stopped", x.beginReading(0), 3);
        });
        Sentences.test("Throws IndexOutOfBoundsException if there is no such list",
                () -> Refusals.noSuchList((x, list) -> x.beginReading(list)));
        Sentences.test("Throws IllegalStateException if there are 4 readers", () -> {
            Refusals.notNow(Samples::full, x -> x.beginReading(0));
            Refusals.notNow(Samples::four, x -> x.beginReading(3));
            RuleLists x = Samples.four();
            x.stopReading(0);
            Check.due("beginReading(3) beside 3 readers", x.beginReading(3), 3);
        });
    }

    private static void read() {
        Sentences.of("Promise 16: read");
        Sentences.test("A reader reads the next member.", () -> {
            RuleLists x = Samples.four();
            Check.due("read(1)", x.read(1), 998);
            Check.due("read(1), the last one", x.read(1), 999);
            Check.due("the reader", Look.reader(x, 1), "1 2 -1");
            Check.due("another reader", Look.reader(x, 0), "0 0 10");
            Check.due("readings()", x.readings(), 2);
        });
        Sentences.test("reader: number of a reader", () -> {
            RuleLists x = Samples.four();
            x.read(0);
            x.read(3);
            x.read(3);
            Check.due("the first reader", Look.reader(x, 0), "0 1 20");
            Check.due("the last reader", Look.reader(x, 3), "0 2 30");
        });
        Sentences.test("Returns the member.", () -> {
            RuleLists x = Look.loaded("Ls00001s00099r00r01");
            for (int member = 0; member < 300; member++) {
                Check.due("read(0)", x.read(0), member);
            }
            for (int member = 0; member <= 990; member += 99) {
                Check.due("read(1)", x.read(1), member);
            }
        });
        Sentences.test("Throws IndexOutOfBoundsException if there is no such reader",
                () -> Refusals.noSuchReader((x, reader) -> x.read(reader)));
        Sentences.test("Throws IllegalStateException if the list has no more members", () -> {
            Refusals.notNow(Samples::four, x -> x.read(2));
            Refusals.notNow(Samples::full, x -> x.read(1));
            Refusals.notNow(() -> Look.loaded("Ls99901r00n0"), x -> x.read(0));
            Refusals.notNow(() -> Look.loaded("Ls00099r00k011"), x -> x.read(0));
            RuleLists x = Look.loaded("Ls00099r00k010");
            Check.due("read(0), the last member", x.read(0), 990);
            x.goBack(0);
            Check.due("read(0) after going back", x.read(0), 0);
        });
    }

    private static void skip() {
        Sentences.of("Promise 17: skip");
        Sentences.test("A reader skips members, as many as there are.", () -> {
            RuleLists x = Samples.four();
            x.skip(0, 1);
            Check.due("after one", Look.reader(x, 0), "0 1 20");
            x.skip(0, 97);
            Check.due("ahead of the last one", Look.reader(x, 0), "0 98 990");
            x.skip(0, 2);
            Check.due("more than there are", Look.reader(x, 0), "0 99 -1");
            x.skip(0, 99);
            Check.due("where there are none", Look.reader(x, 0), "0 99 -1");
            x.skip(2, 1);
            Check.due("in an empty list", Look.reader(x, 2), "2 0 -1");
            Check.due("another reader", Look.reader(x, 3), "0 0 10");
        });
        Sentences.test("reader: number of a reader", () -> {
            RuleLists x = Samples.four();
            Check.due("skip(0, 2)", x.skip(0, 2), 2);
            Check.due("skip(3, 3)", x.skip(3, 3), 3);
            Check.due("the first reader", Look.reader(x, 0), "0 2 30");
            Check.due("the last reader", Look.reader(x, 3), "0 3 40");
        });
        Sentences.test("members: 1 to 99", () -> {
            RuleLists x = Look.loaded("Ls00001r00");
            x.skip(0, 99);
            Check.due("after 99", Look.reader(x, 0), "0 99 99");
            x.skip(0, 1);
            Check.due("after one more", Look.reader(x, 0), "0 100 100");
        });
        Sentences.test("Returns how many it skips.", () -> {
            RuleLists x = Samples.four();
            Check.due("skip(0, 98)", x.skip(0, 98), 98);
            Check.due("skip(0, 2), where there is one", x.skip(0, 2), 1);
            Check.due("skip(0, 1), where there is none", x.skip(0, 1), 0);
            Check.due("skip(1, 2), just as many as there are", x.skip(1, 2), 2);
            Check.due("skip(2, 99) in an empty list", x.skip(2, 99), 0);
            Check.due("skip(3, 99), just all", x.skip(3, 99), 99);
        });
        Sentences.test("Throws IndexOutOfBoundsException if there is no such reader", () -> {
            Refusals.noSuchReader((x, reader) -> x.skip(reader, 1));
            Refusals.noSuchReader((x, reader) -> x.skip(reader, 100));
        });
        Sentences.test("Throws IllegalArgumentException if members is out of range", () -> {
            Refusals.outOfRange(1, 99, (x, members) -> x.skip(0, members));
            Refusals.outOfRange(Samples::four, x -> x.skip(2, 0));
            Refusals.outOfRange(Samples::full, x -> x.skip(1, 100));
        });
    }

    private static void goBack() {
        Sentences.of("Promise 18: goBack");
        Sentences.test("A reader goes back to the beginning of its list.", () -> {
            RuleLists x = Samples.four();
            x.read(1);
            x.read(1);
            x.skip(3, 5);
            x.goBack(1);
            Check.due("from the end", Look.reader(x, 1), "1 0 998");
            Check.due("another reader", Look.reader(x, 3), "0 5 60");
            x.goBack(2);
            Check.due("in an empty list", Look.reader(x, 2), "2 0 -1");
            Check.due("readings()", x.readings(), 2);
            Check.due("read(1)", x.read(1), 998);
        });
        Sentences.test("reader: number of a reader", () -> {
            RuleLists x = Samples.four();
            x.skip(0, 5);
            x.skip(3, 7);
            Check.due("goBack(3)", x.goBack(3), 7);
            Check.due("the first reader", Look.reader(x, 0), "0 5 60");
            Check.due("goBack(0)", x.goBack(0), 5);
            Check.due("the first reader", Look.reader(x, 0), "0 0 10");
            Check.due("the last reader", Look.reader(x, 3), "0 0 10");
        });
        Sentences.test("Returns how many members it had read or skipped.", () -> {
            RuleLists x = Samples.four();
            Check.due("goBack(0) from the beginning", x.goBack(0), 0);
            x.read(0);
            x.skip(0, 99);
            Check.due("goBack(0) from the end", x.goBack(0), 99);
            Check.due("goBack(0) again", x.goBack(0), 0);
            x.read(0);
            Check.due("goBack(0) after one", x.goBack(0), 1);
        });
        Sentences.test("Throws IndexOutOfBoundsException if there is no such reader",
                () -> Refusals.noSuchReader((x, reader) -> x.goBack(reader)));
    }

    private static void stopReading() {
        Sentences.of("Promise 19: stopReading");
        Sentences.test("A reader stops.", () -> {
            RuleLists x = Samples.four();
            x.skip(3, 4);
            x.stopReading(1);
            Check.due("readers()", x.readers(), 3);
            Check.due("the reader ahead of it", Look.reader(x, 0), "0 0 10");
            Check.due("the reader behind it", Look.reader(x, 1), "2 0 -1");
            Check.due("the last reader", Look.reader(x, 2), "0 4 50");
            Check.due("lists()", x.lists(), 4);
        });
        Sentences.test("reader: number of a reader", () -> {
            RuleLists x = Samples.four();
            x.skip(3, 4);
            x.stopReading(0);
            Check.due("the first reader then", Look.reader(x, 0), "1 0 998");
            Check.due("the last reader then", Look.reader(x, 2), "0 4 50");
            x.stopReading(2);
            Check.due("the last reader then", Look.reader(x, 1), "2 0 -1");
            Check.due("readers()", x.readers(), 2);
        });
        Sentences.test("Returns how many readers there are then.", () -> {
            RuleLists x = Samples.four();
            for (int left = 3; left >= 0; left--) {
                Check.due("stopReading(0)", x.stopReading(0), left);
                Check.due("readers()", x.readers(), left);
            }
        });
        Sentences.test("Throws IndexOutOfBoundsException if there is no such reader", () -> {
            Refusals.noSuchReader((x, reader) -> x.stopReading(reader));
            RuleLists x = Samples.four();
            x.stopReading(3);
            Check.due("stopReading(3) again", Check.nameOfThrown(() -> x.stopReading(3)),
                    IndexOutOfBoundsException.class.getName());
        });
    }

    private static void undo() {
        Sentences.of("Promise 20: undo");
        Sentences.test("Takes back the latest action that is remembered.", () -> {
            RuleLists x = Samples.four();
            String begun = Look.state(x);
            x.read(0);
            String read = Look.state(x);
            x.makeSteps(7, 7);
            x.undo();
            Check.due("after the first undo()", Look.state(x), read);
            x.undo();
            Check.due("after the second undo()", Look.state(x), begun);
            x.stopReading(0);
            x.undo();
            Check.due("after undo() of an action behind an undo()", Look.state(x), begun);
        });
        Sentences.test("Returns how many states are still remembered.", () -> {
            RuleLists x = new RuleLists();
            x.makeSteps(7, 7);
            Check.due("undo() of the only action", x.undo(), 0);
            for (int times = 0; times < 12; times++) {
                x.makeSteps(7, 7);
            }
            for (int left = 11; left >= 0; left--) {
                Check.due("undo()", x.undo(), left);
                Check.due("lists()", x.lists(), left);
            }
        });
        Sentences.test("Throws IllegalStateException if none is remembered", () -> {
            Refusals.notNow(RuleLists::new, RuleLists::undo);
            Refusals.notNow(() -> Look.loaded("Ls00101r00n0"), RuleLists::undo);
            Refusals.notNow(ReaderActionSentences::undone, RuleLists::undo);
            Refusals.notNow(ReaderActionSentences::restored, RuleLists::undo);
        });
    }

    private static RuleLists undone() {
        RuleLists x = Samples.full();
        Check.due("actions that are taken back", Look.undoAll(x), 14);
        return x;
    }

    private static RuleLists restored() {
        RuleLists x = Samples.full();
        x.restore(1);
        return x;
    }
}
