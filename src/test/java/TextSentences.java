/** A test for each sentence of promises 1 to 5. */
final class TextSentences {
    private TextSentences() {
    }

    static void test() {
        newObject();
        append();
        clearText();
        errorPosition();
        load();
    }

    private static void newObject() {
        Sentences.of("Promise 1: A new object");
        Sentences.test("Creates an object without lists and readers.", () -> {
            RuleLists x = new RuleLists();
            Check.due("lists()", x.lists(), 0);
            Check.due("readers()", x.readers(), 0);
            Check.due("readings()", x.readings(), 0);
            Check.due("leastNext()", x.leastNext(), -1);
            Check.due("clearText()", x.clearText(), 0);
            Refusals.notNow(RuleLists::new, RuleLists::undo);
            Refusals.notNow(RuleLists::new, y -> y.restore(0));
            Refusals.notNow(RuleLists::new, y -> y.restore(1));
            Samples.full();
            Check.due("lists() of an object after another one's use", new RuleLists().lists(), 0);
            Check.due("clearText() after another one's use", new RuleLists().clearText(), 0);
        });
    }

    private static void append() {
        Sentences.of("Promise 2: append");
        Sentences.test("Appends a character to the text buffer.", () -> {
            RuleLists x = written("Ls0050");
            Check.due("errorPosition() ahead of it", x.errorPosition(), 6);
            x.append('5');
            Check.due("errorPosition() after it", x.errorPosition(), -1);
            x.append('d');
            Check.due("load()", x.load(), 0);
            Check.due("lists()", x.lists(), 0);
        });
        Sentences.test("c: character code, 0 to 255", () -> {
            for (int c = 0; c <= 255; c++) {
                RuleLists x = new RuleLists();
                Check.due("append(" + c + ")", x.append(c), 1);
                Check.due("errorPosition()", x.errorPosition(), c == 'L' ? -1 : 0);
            }
        });
        Sentences.test("Returns the new length of the text.", () -> {
            RuleLists x = new RuleLists();
            for (int length = 1; length <= 120; length++) {
                Check.due("append", x.append(length), length);
            }
            x.clearText();
            Check.due("append after clearText()", x.append('L'), 1);
        });
        Sentences.test("Throws IllegalArgumentException if c is out of range", () -> {
            Refusals.outOfRange(0, 255, (x, c) -> x.append(c));
            Refusals.outOfRange(RuleLists::new, x -> x.append(256));
            Refusals.outOfRange(RuleLists::new, x -> x.append(-1));
            // These would be an L if only the last bits were kept.
            Refusals.outOfRange(RuleLists::new, x -> x.append(256 + 'L'));
            Refusals.outOfRange(RuleLists::new, x -> x.append(65536 + 'L'));
            Refusals.outOfRange(RuleLists::new, x -> x.append('L' - 256));
        });
        Sentences.test("Throws IllegalStateException if the text already has 120 characters", () -> {
            RuleLists x = written("L" + "d".repeat(118));
            Check.due("append, the 120th", x.append('d'), 120);
            Refusals.notNow(() -> written("L" + "d".repeat(119)), y -> y.append('d'));
            Refusals.notNow(() -> written("x".repeat(120)), y -> y.append(0));
            Refusals.notNow(() -> fullWith("L" + "d".repeat(119)), y -> y.append('d'));
        });
    }

    private static void clearText() {
        Sentences.of("Promise 3: clearText");
        Sentences.test("Empties the text buffer.", () -> {
            RuleLists x = written("Ls00101");
            x.clearText();
            Check.due("errorPosition()", x.errorPosition(), 0);
            x.append('L');
            Check.due("errorPosition() of what is written anew", x.errorPosition(), -1);
            Check.due("load()", x.load(), 0);
            Check.due("lists()", x.lists(), 0);
        });
        Sentences.test("Returns the length that it had.", () -> {
            RuleLists x = new RuleLists();
            Check.due("clearText(), empty", x.clearText(), 0);
            x.append(0);
            Check.due("clearText(), one character", x.clearText(), 1);
            Check.due("clearText() again", x.clearText(), 0);
            Look.write(x, "d".repeat(120));
            Check.due("clearText(), full", x.clearText(), 120);
        });
    }

    private static void errorPosition() {
        Sentences.of("Promise 4: errorPosition");
        Sentences.test("Checks the text.", () -> {
            RuleLists x = Samples.rich();
            x.errorPosition();
            Check.due("all after it", Look.whole(x), Look.whole(Samples.rich()));
            Check.due("errorPosition() of rules that make nothing", written("Ldv00n3").errorPosition(), -1);
            Check.due("lists() after checking rules", checked("Ls00101").lists(), 0);
        });
        Sentences.test("Returns the error position of the text;", () -> {
            Check.due("errorPosition(), empty", new RuleLists().errorPosition(), 0);
            Check.due("errorPosition() of s", written("s").errorPosition(), 0);
            Check.due("errorPosition() of Lss", written("Lss").errorPosition(), 2);
            Check.due("errorPosition() of Ls00", written("Ls00").errorPosition(), 4);
            Check.due("errorPosition() at the end", written("L" + "d".repeat(117) + "x0").errorPosition(), 120);
            Check.due("errorPosition(), last", written("L" + "d".repeat(118) + "L").errorPosition(), 119);
        });
        Sentences.test("NONE if it is rules.", () -> {
            Check.due("errorPosition() of L", written("L").errorPosition(), RuleLists.NONE);
            Check.due("errorPosition() of Ld", written("Ld").errorPosition(), RuleLists.NONE);
            String longest = "L" + "d".repeat(119);
            Check.due("errorPosition() of the longest", written(longest).errorPosition(), RuleLists.NONE);
        });
    }

    private static void load() {
        Sentences.of("Promise 5: load");
        Sentences.test("Makes everything as in a new object, and then carries out the commands of the text.", () -> {
            for (String text : new String[] {"L", "Ls99001r00n0", "Ldn0r00", "Ls00101r00r00r00r00n3k399z2q0d"}) {
                RuleLists x = Samples.full();
                x.clearText();
                Look.write(x, text);
                x.load();
                Check.due("all after load() of " + text, Look.whole(x), Look.whole(Look.loaded(text)));
            }
            RuleLists y = Look.loaded("Ls99005r00n0k001");
            Check.due("what is made", Look.state(y), "1 lists, 1 readings, drop 2, 0 2 -1 / 2 995 5");
        });
        Sentences.test("Afterwards no state is remembered, and both slots are empty.", () -> {
            Refusals.notNow(TextSentences::loadedFromFull, RuleLists::undo);
            Refusals.notNow(TextSentences::loadedFromFull, x -> x.restore(0));
            Refusals.notNow(TextSentences::loadedFromFull, x -> x.restore(1));
            RuleLists x = loadedFromFull();
            x.makeSteps(7, 7);
            Check.due("undo() of the first action after load()", x.undo(), 0);
            Check.due("lists()", x.lists(), 1);
        });
        Sentences.test("The text stays, also if the exception is thrown.", () -> {
            RuleLists x = Look.loaded("Ls00101d");
            Check.due("errorPosition()", x.errorPosition(), -1);
            Check.due("load() again", x.load(), 0);
            Check.due("clearText()", x.clearText(), 8);
            RuleLists wrong = written("Ls00101dL");
            Check.nameOfThrown(wrong::load);
            Check.due("errorPosition() after the exception", wrong.errorPosition(), 8);
            Check.due("clearText() after the exception", wrong.clearText(), 9);
        });
        Sentences.test("Returns the number of commands that were skipped.", () -> {
            Check.due("load() of no command", written("L").load(), 0);
            Check.due("load(), none skipped", written("Ls00101r00n0").load(), 0);
            Check.due("load(), one skipped", written("Ls00101dd").load(), 1);
            Check.due("load(), all skipped", written("Lr00n0q0").load(), 3);
            Check.due("load(), the most that can be", written("L" + "d".repeat(119)).load(), 119);
        });
        Sentences.test("Throws IllegalStateException if the text is not rules", () -> {
            Refusals.notNow(RuleLists::new, RuleLists::load);
            Refusals.notNow(() -> fullWith(""), RuleLists::load);
            for (String text : new String[] {"s00101", "Ls0010", "Ls00100", "LL", "Ls00101 ", "Ln4", "L" + "d".repeat(118) + "n"}) {
                Refusals.notNow(() -> written(text), RuleLists::load);
                Refusals.notNow(() -> fullWith(text), RuleLists::load);
            }
        });
    }

    private static RuleLists written(String text) {
        RuleLists x = new RuleLists();
        Look.write(x, text);
        return x;
    }

    private static RuleLists checked(String text) {
        RuleLists x = written(text);
        x.errorPosition();
        return x;
    }

    private static RuleLists fullWith(String text) {
        RuleLists x = Samples.full();
        x.clearText();
        Look.write(x, text);
        return x;
    }

    private static RuleLists loadedFromFull() {
        RuleLists x = fullWith("Ls00101r00n0k099z0");
        x.load();
        return x;
    }
}
