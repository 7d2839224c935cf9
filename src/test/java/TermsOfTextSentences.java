/** A test for each sentence of "Terms" about the text. */
final class TermsOfTextSentences {
    private TermsOfTextSentences() {
    }

    static void test() {
        Sentences.of("Terms");
        text();
        commands();
        errors();
    }

    private static void text() {
        Sentences.test("The object has a text buffer of at most 120 characters.", () -> {
            RuleLists x = new RuleLists();
            Look.write(x, "L" + "d".repeat(119));
            Check.due("the 121st", Check.nameOfThrown(() -> x.append('d')), IllegalStateException.class.getName());
            Check.due("load()", x.load(), 119);
            Check.due("clearText()", x.clearText(), 120);
            Check.due("append after it", x.append('L'), 1);
        });
        Sentences.test("Rules as a text are the letter L, followed by any number of commands;", () -> {
            Texts.allowed("L");
            Texts.allowed("Ld");
            Texts.allowed("L" + "d".repeat(119));
            Texts.allowed("L" + "s00001".repeat(19) + "d".repeat(5));
            Texts.error("", 0);
            Texts.error("d", 0);
            Texts.error("l", 0);
            Texts.error("s00101", 0);
            Texts.error("LL", 1);
            Texts.error("LdL", 2);
            for (int c = 0; c <= 255; c++) {
                // Behind the L stands a letter of a command, and with d the text is whole.
                int due = c == 'd' ? RuleLists.NONE : "sxjhwveurnkzq".indexOf(c) >= 0 ? 2 : 1;
                Texts.error("L" + (char) c, due);
            }
        });
    }

    private static void commands() {
        Sentences.test("a list is two digits (00 to 11), a reader a digit (0 to 3): s, three digits for the first number"
                + " (000 to 999), and two for the step (01 to 99): steps;", () -> {
            Texts.numbers("s", "|0 to 999|1 to 99");
            Texts.allowed("Lx00100x11100x09100x10100");
            Texts.error("Lx12", 3);
            Texts.error("Lx20", 2);
            Texts.allowed("Ln0n1n2n3");
            Texts.error("Ln4", 2);
            Texts.lastList("s00099", " 0 99 198 297 396 495 594 693 792 891 990");
            Texts.lastList("s99901", " 999");
            Texts.lastList("s90510", " 905 915 925 935 945 955 965 975 985 995");
            Texts.lastList("s95001", members(950, 999));
        });
        Sentences.test("x, a list, a digit for the factor (1 to 9), and two for the number that is added (00 to 99): scaled;",
                () -> {
            Texts.numbers("x", "|00 to 11|1 to 9|0 to 99");
            Texts.lastList("s00099s00150x00199", " 99 198 297 396 495 594 693 792 891 990");
            Texts.lastList("s00099s01150x01900", " 99 549 999");
            Texts.lastList("s90020x00110", " 910 930 950 970 990");
        });
        Sentences.test("j, a list, and a list: joined;", () -> {
            Texts.numbers("j", "|00 to 11|00 to 11");
            Texts.lastList("s90050s92060s93030j0001", " 900 920 950 980");
            Texts.lastList("s90050s92060s93030j0201", " 920 930 960 980 990");
        });
        Sentences.test("h, a list, and a list: shared;", () -> {
            Texts.numbers("h", "|00 to 11|00 to 11");
            Texts.lastList("s90020s90030s90040h0001", " 900 960");
            Texts.lastList("s90020s90030s90040h0200", " 900 940 980");
        });
        Sentences.test("w, a list, and a list: without;", () -> {
            Texts.numbers("w", "|00 to 11|00 to 11");
            Texts.lastList("s90020s90030s90040w0001", " 920 940 980");
            Texts.lastList("s90020s90030s90040w0100", " 930 990");
        });
        Sentences.test("v and a list: sieved;", () -> {
            Texts.numbers("v", "|00 to 11");
            Texts.lastList("s00202s90030v00", " 2");
            Texts.lastList("s00202s90030v01", " 900 930 960 990");
        });
        Sentences.test("e, a list, and a digit (1 to 9): thinned;", () -> {
            Texts.numbers("e", "|00 to 11|1 to 9");
            Texts.lastList("s00099s90020e009", " 792");
            Texts.lastList("s00099s90020e011", " 900 920 940 960 980");
            Texts.lastList("s00099s90020e014", " 960");
        });
        Sentences.test("u and a list: added up;", () -> {
            Texts.numbers("u", "|00 to 11");
            Texts.lastList("s40099s20050u00", " 400 899");
            Texts.lastList("s40099s20050u01", " 200 450 750");
        });
        readerCommands();
        Sentences.test("d: the last list is dropped.", () -> {
            Texts.allowed("Ld");
            Texts.error("Ld0", 2);
            Texts.lastList("s00099s90020s90030dd", " 0 99 198 297 396 495 594 693 792 891 990");
            Check.due("lists()", Look.loaded("Ls00099s90020d").lists(), 1);
        });
        Sentences.test("A command whose method would throw an exception is skipped.", () -> {
            String full = "Ls00101" + "v00".repeat(11);
            String[] makers = {"s00101", "x00100", "j0000", "h0000", "w0000", "v00", "e001", "u00"};
            for (String maker : makers) {
                Check.due("a 13th list by " + maker, Texts.skippedOf(full + maker), 1);
            }
            String[] noSuch = {"x01100", "j0100", "j0001", "h0100", "h0001", "w0100", "w0001", "v01", "e011", "u01",
                "r01", "n1", "k101", "z1", "q1"};
            for (String command : noSuch) {
                RuleLists x = new RuleLists();
                Look.write(x, "Ls99001r00" + command + "n0");
                Check.due(command, x.load(), 1);
                Check.due("all but " + command, Look.state(x), Look.state(Look.loaded("Ls99001r00n0")));
            }
            Check.due("a 5th reader", Texts.skippedOf("Ls00101r00r00r00r00r00"), 1);
            Check.due("reading at the end", Texts.skippedOf("Ls99901r00n0n0"), 1);
            Check.due("dropping where there is none", Texts.skippedOf("Ldd"), 2);
            Check.due("dropping a list that is read", Texts.skippedOf("Ls99901r00d"), 1);
            Check.due("skipping at the end is not skipped", Texts.skippedOf("Ls99901r00n0k099"), 0);
        });
    }

    private static void readerCommands() {
        Sentences.test("r and a list: a reader begins;", () -> {
            Texts.numbers("r", "|00 to 11");
            RuleLists x = Look.loaded("Ls00099s90020r01r00");
            Check.due("the first reader", Look.reader(x, 0), "1 0 900");
            Check.due("the second reader", Look.reader(x, 1), "0 0 0");
        });
        Sentences.test("n and a reader: it reads;", () -> {
            Texts.numbers("n", "|0 to 3");
            RuleLists x = Look.loaded("Ls00099r00r00r00r00n3n3n0");
            Check.due("the first reader", Look.reader(x, 0), "0 1 99");
            Check.due("the last reader", Look.reader(x, 3), "0 2 198");
            Check.due("readings()", x.readings(), 3);
        });
        Sentences.test("k, a reader, and two digits (01 to 99): it skips so many;", () -> {
            Texts.numbers("k", "|0 to 3|1 to 99");
            RuleLists x = Look.loaded("Ls00001r00r00r00r00k001k399k110");
            Check.due("the first reader", Look.reader(x, 0), "0 1 1");
            Check.due("the second reader", Look.reader(x, 1), "0 10 10");
            Check.due("the last reader", Look.reader(x, 3), "0 99 99");
            Check.due("readings()", x.readings(), 0);
        });
        Sentences.test("z and a reader: it goes back to the beginning;", () -> {
            Texts.numbers("z", "|0 to 3");
            RuleLists x = Look.loaded("Ls00099r00r00r00r00n3n0n1z3z0");
            Check.due("the first reader", Look.reader(x, 0), "0 0 0");
            Check.due("the second reader", Look.reader(x, 1), "0 1 99");
            Check.due("the last reader", Look.reader(x, 3), "0 0 0");
        });
        Sentences.test("q and a reader: it stops;", () -> {
            Texts.numbers("q", "|0 to 3");
            RuleLists x = Look.loaded("Ls00099s90020r00r01r00r01n2q3q0");
            Check.due("readers()", x.readers(), 2);
            Check.due("the first reader", Look.reader(x, 0), "1 0 900");
            Check.due("the second reader", Look.reader(x, 1), "0 1 99");
        });
    }

    private static String members(int from, int to) {
        StringBuilder out = new StringBuilder();
        for (int member = from; member <= to; member++) {
            out.append(' ').append(member);
        }
        return out.toString();
    }

    private static void errors() {
        Sentences.test("There are no blanks.", () -> {
            String text = "Ls00101k001d";
            for (int at = 0; at <= text.length(); at++) {
                Texts.error(text.substring(0, at) + " " + text.substring(at), at);
            }
            Texts.error("L\n", 1);
            Texts.error("L\t", 1);
        });
        Sentences.test("The text is read from left to right.", () -> {
            Check.due("the list first", Texts.skippedOf("Ls00101v00"), 0);
            Check.due("the list afterwards", Texts.skippedOf("Lv00s00101"), 1);
            Texts.error("Ls00X0XX", 4);
            RuleLists x = Look.loaded("Ls00101r00n0k005n0z0n0");
            Check.due("readings()", x.readings(), 3);
            Check.due("the reader", Look.reader(x, 0), "0 1 2");
        });
        Sentences.test("The error position is the index of the first character that these rules do not allow at its place"
                + " (a digit is not allowed if no number that is allowed begins with it and those before it);", () -> {
            Texts.error("Ls00000", 6);
            Texts.error("Lk000", 4);
            Texts.error("Lx000", 4);
            Texts.error("Le000", 4);
            Texts.error("Lv20", 2);
            Texts.error("Lv90", 2);
            Texts.error("Lv12", 3);
            Texts.error("Lv19", 3);
            Texts.error("Lj0012", 5);
            Texts.error("Lj0020", 4);
            Texts.error("Lz4", 2);
            Texts.error("Lz9", 2);
            Texts.error("Ls0:", 3);
            Texts.error("Ls0/", 3);
            Texts.error("Ls0" + (char) 178, 3);
            Texts.error("Ln0n", 4);
            Texts.error("L" + "d".repeat(118) + "0", 119);
            Texts.error("L" + "d".repeat(115) + "n4dd", 117);
        });
        Sentences.test("if the text ends too soon, it is the length of the text.", () -> {
            Texts.error("", 0);
            String[] commands = {"s98701", "x11900", "j1011", "h0011", "w1100", "v10", "e119", "u01", "r11", "n3", "k399",
                "z0", "q1"};
            for (String command : commands) {
                for (int length = 1; length < command.length(); length++) {
                    Texts.error("L" + command.substring(0, length), 1 + length);
                    String ahead = "L" + "d".repeat(119 - length);
                    Texts.error(ahead + command.substring(0, length), 120);
                }
                Texts.allowed("L" + command);
            }
            RuleLists x = new RuleLists();
            Look.write(x, "Ls00101v00");
            x.clearText();
            Look.write(x, "Ls00");
            Check.due("what stood there before is gone", x.errorPosition(), 4);
        });
    }
}
