/** A test for each sentence of promises 21 to 35. */
final class LookSentences {
    private LookSentences() {
    }

    static void test() {
        lists();
        isMember();
        memberByReading();
        memberByTesting();
        placeOf();
        membersUpTo();
        lastMember();
        firstShared();
        widestGap();
        readers();
        listOf();
        readSoFar();
        nextOf();
        readings();
        leastNext();
    }

    /** 0: 3 66 129 .. 948; 1: 0 1 2 .. 999; 2: 999; 3: empty; 4: 1 2 3 .. 999; 5: 0. */
    private static RuleLists sample() {
        RuleLists x = Look.loaded("Ls00363s00001s99901w0000");
        x.makeSteps(1, 1);
        x.makeWithout(1, 4);
        return x;
    }

    private static void lists() {
        Sentences.of("Promise 21: lists");
        Sentences.test("Returns the number of lists.", () -> {
            Check.due("lists() of a new object", new RuleLists().lists(), 0);
            Check.due("lists() of a full object", Samples.full().lists(), 12);
            Check.due("lists() after the only one is dropped", Samples.dropped().lists(), 0);
        });
        Sentences.test("Returns how many there are.", () -> {
            RuleLists x = new RuleLists();
            for (int lists = 1; lists <= 12; lists++) {
                x.makeSteps(lists, 5);
                Check.due("lists()", x.lists(), lists);
            }
            Check.nameOfThrown(() -> x.makeSteps(1, 1));
            Check.due("lists() after a 13th was refused", x.lists(), 12);
            x.dropLast();
            Check.due("lists() after one is dropped", x.lists(), 11);
            x.undo();
            Check.due("lists() after undo()", x.lists(), 12);
        });
    }

    private static void isMember() {
        Sentences.of("Promise 22: isMember");
        Sentences.test("Tells whether a number is a member of a list.", () -> {
            RuleLists x = sample();
            for (int number = 0; number < 200; number++) {
                Check.due("isMember(0, " + number + ")", x.isMember(0, number), number % 63 == 3);
            }
        });
        Sentences.test("list: number of a list", () -> {
            RuleLists x = Samples.full();
            Check.due("isMember(0, 950)", x.isMember(0, 950), true);
            Check.due("isMember(11, 62)", x.isMember(11, 62), true);
            Check.due("isMember(11, 950)", x.isMember(11, 950), false);
        });
        Sentences.test("number: 0 to 999", () -> {
            RuleLists x = sample();
            Check.due("isMember(1, 0)", x.isMember(1, 0), true);
            Check.due("isMember(1, 999)", x.isMember(1, 999), true);
            Check.due("isMember(2, 0)", x.isMember(2, 0), false);
            Check.due("isMember(2, 999)", x.isMember(2, 999), true);
            Check.due("isMember(4, 0)", x.isMember(4, 0), false);
            Check.due("isMember(5, 0)", x.isMember(5, 0), true);
            Check.due("isMember(5, 999)", x.isMember(5, 999), false);
        });
        Sentences.test("Returns true if it is.", () -> {
            RuleLists x = sample();
            Check.due("isMember(0, 948)", x.isMember(0, 948), true);
            Check.due("isMember(0, 947)", x.isMember(0, 947), false);
            Check.due("isMember(3, 0), empty", x.isMember(3, 0), false);
            Check.due("isMember(3, 999), empty", x.isMember(3, 999), false);
        });
        Sentences.test("Throws IndexOutOfBoundsException if there is no such list", () -> {
            Refusals.noSuchList((x, list) -> x.isMember(list, 0));
            Refusals.noSuchList((x, list) -> x.isMember(list, 1000));
        });
        Sentences.test("Throws IllegalArgumentException if number is out of range",
                () -> Refusals.outOfRange(0, 999, (x, number) -> x.isMember(0, number)));
    }

    private static void memberByReading() {
        Sentences.of("Promise 23: memberByReading");
        Sentences.test("Returns the member at a place, found by reading the list from its beginning on.", () -> {
            RuleLists x = sample();
            for (int place = 0; place < 16; place++) {
                Check.due("memberByReading(0, " + place + ")", x.memberByReading(0, place), 3 + 63 * place);
            }
        });
        Sentences.test("list: number of a list", () -> {
            RuleLists x = Samples.full();
            Check.due("memberByReading(0, 1)", x.memberByReading(0, 1), 50);
            Check.due("memberByReading(11, 1)", x.memberByReading(11, 1), 62);
        });
        Sentences.test("place: 0 for the first member", () -> {
            RuleLists x = sample();
            Check.due("memberByReading(0, 0)", x.memberByReading(0, 0), 3);
            Check.due("memberByReading(1, 0)", x.memberByReading(1, 0), 0);
            Check.due("memberByReading(2, 0)", x.memberByReading(2, 0), 999);
            Check.due("memberByReading(5, 0)", x.memberByReading(5, 0), 0);
        });
        Sentences.test("Returns the member;", () -> {
            RuleLists x = sample();
            Check.due("memberByReading(0, 15), the last one", x.memberByReading(0, 15), 948);
            Check.due("memberByReading(1, 999), the last one", x.memberByReading(1, 999), 999);
            Check.due("memberByReading(1, 500)", x.memberByReading(1, 500), 500);
        });
        Sentences.test("NONE if there are not so many.", () -> {
            RuleLists x = sample();
            Check.due("memberByReading(0, 16)", x.memberByReading(0, 16), -1);
            Check.due("memberByReading(1, 1000)", x.memberByReading(1, 1000), -1);
            Check.due("memberByReading(2, 1)", x.memberByReading(2, 1), -1);
            Check.due("memberByReading(3, 0)", x.memberByReading(3, 0), -1);
            Check.due("memberByReading(5, 1)", x.memberByReading(5, 1), -1);
            Check.due("memberByReading(1, greatest)", x.memberByReading(1, Integer.MAX_VALUE), -1);
        });
        Sentences.test("Throws IndexOutOfBoundsException if there is no such list, or place is below 0", () -> {
            Refusals.noSuchList((x, list) -> x.memberByReading(list, 0));
            Refusals.noSuchList((x, list) -> x.memberByReading(list, -1));
            Refusals.noSuch(Samples::rich, x -> x.memberByReading(0, -1));
            Refusals.noSuch(Samples::full, x -> x.memberByReading(2, -1));
            Refusals.noSuch(Samples::rich, x -> x.memberByReading(0, Integer.MIN_VALUE));
        });
    }

    private static void memberByTesting() {
        Sentences.of("Promise 24: memberByTesting");
        Sentences.test("Returns the member at a place, found by testing the numbers from 0 on, one after the other.",
                () -> {
            RuleLists x = sample();
            for (int place = 0; place < 16; place++) {
                Check.due("memberByTesting(0, " + place + ")", x.memberByTesting(0, place), 3 + 63 * place);
            }
        });
        Sentences.test("list: number of a list", () -> {
            RuleLists x = Samples.full();
            Check.due("memberByTesting(0, 1)", x.memberByTesting(0, 1), 50);
            Check.due("memberByTesting(11, 1)", x.memberByTesting(11, 1), 62);
        });
        Sentences.test("place: 0 for the first member", () -> {
            RuleLists x = sample();
            Check.due("memberByTesting(0, 0)", x.memberByTesting(0, 0), 3);
            Check.due("memberByTesting(1, 0)", x.memberByTesting(1, 0), 0);
            Check.due("memberByTesting(2, 0)", x.memberByTesting(2, 0), 999);
            Check.due("memberByTesting(5, 0)", x.memberByTesting(5, 0), 0);
        });
        Sentences.test("Returns the same as memberByReading().", () -> {
            RuleLists x = sample();
            for (int list = 0; list < 6; list++) {
                for (int place : new int[] {0, 1, 2, 14, 15, 16, 17, 998, 999, 1000, 1001, Integer.MAX_VALUE}) {
                    Check.due("memberByTesting(" + list + ", " + place + ")", x.memberByTesting(list, place),
                            x.memberByReading(list, place));
                }
            }
        });
        Sentences.test("Throws IndexOutOfBoundsException if there is no such list, or place is below 0", () -> {
            Refusals.noSuchList((x, list) -> x.memberByTesting(list, 0));
            Refusals.noSuchList((x, list) -> x.memberByTesting(list, -1));
            Refusals.noSuch(Samples::rich, x -> x.memberByTesting(0, -1));
            Refusals.noSuch(Samples::full, x -> x.memberByTesting(2, -1));
            Refusals.noSuch(Samples::rich, x -> x.memberByTesting(0, Integer.MIN_VALUE));
        });
    }

    private static void placeOf() {
        Sentences.of("Promise 25: placeOf");
        Sentences.test("Returns the place of a member.", () -> {
            RuleLists x = sample();
            for (int place = 0; place < 16; place++) {
                Check.due("placeOf the member", x.placeOf(0, 3 + 63 * place), place);
            }
        });
        Sentences.test("list: number of a list", () -> {
            RuleLists x = Samples.full();
            Check.due("placeOf(0, 950)", x.placeOf(0, 950), 19);
            Check.due("placeOf(11, 62)", x.placeOf(11, 62), 1);
        });
        Sentences.test("number: 0 to 999", () -> {
            RuleLists x = sample();
            Check.due("placeOf(1, 0)", x.placeOf(1, 0), 0);
            Check.due("placeOf(1, 999)", x.placeOf(1, 999), 999);
            Check.due("placeOf(2, 999)", x.placeOf(2, 999), 0);
            Check.due("placeOf(5, 0)", x.placeOf(5, 0), 0);
        });
        Sentences.test("Returns its place, from 0;", () -> {
            RuleLists x = sample();
            Check.due("placeOf(0, 3), the first one", x.placeOf(0, 3), 0);
            Check.due("placeOf(0, 948), the last one", x.placeOf(0, 948), 15);
            Check.due("placeOf(4, 1)", x.placeOf(4, 1), 0);
            for (int number : new int[] {62, 63, 64, 65, 127, 128, 129}) {
                Check.due("placeOf(1, " + number + ")", x.placeOf(1, number), number);
            }
        });
        Sentences.test("NONE if it is no member.", () -> {
            RuleLists x = sample();
            Check.due("placeOf(0, 2)", x.placeOf(0, 2), -1);
            Check.due("placeOf(0, 4)", x.placeOf(0, 4), -1);
            Check.due("placeOf(0, 999)", x.placeOf(0, 999), -1);
            Check.due("placeOf(2, 0)", x.placeOf(2, 0), -1);
            Check.due("placeOf(3, 0), empty", x.placeOf(3, 0), -1);
            Check.due("placeOf(3, 999), empty", x.placeOf(3, 999), -1);
        });
        Sentences.test("Throws IndexOutOfBoundsException if there is no such list", () -> {
            Refusals.noSuchList((x, list) -> x.placeOf(list, 0));
            Refusals.noSuchList((x, list) -> x.placeOf(list, -1));
        });
        Sentences.test("Throws IllegalArgumentException if number is out of range",
                () -> Refusals.outOfRange(0, 999, (x, number) -> x.placeOf(0, number)));
    }

    private static void membersUpTo() {
        Sentences.of("Promise 26: membersUpTo");
        Sentences.test("Counts the members up to a number.", () -> {
            RuleLists x = sample();
            for (int number = 0; number < 200; number++) {
                Check.due("membersUpTo(0, " + number + ")", x.membersUpTo(0, number), (number + 60) / 63);
            }
        });
        Sentences.test("list: number of a list", () -> {
            RuleLists x = Samples.full();
            Check.due("membersUpTo(0, 950)", x.membersUpTo(0, 950), 20);
            Check.due("membersUpTo(11, 62)", x.membersUpTo(11, 62), 2);
        });
        Sentences.test("number: 0 to 999", () -> {
            RuleLists x = sample();
            Check.due("membersUpTo(1, 0)", x.membersUpTo(1, 0), 1);
            Check.due("membersUpTo(1, 999)", x.membersUpTo(1, 999), 1000);
            Check.due("membersUpTo(4, 0)", x.membersUpTo(4, 0), 0);
            Check.due("membersUpTo(3, 0)", x.membersUpTo(3, 0), 0);
            Check.due("membersUpTo(3, 999)", x.membersUpTo(3, 999), 0);
        });
        Sentences.test("Returns how many members are not greater.", () -> {
            RuleLists x = sample();
            Check.due("membersUpTo(2, 998)", x.membersUpTo(2, 998), 0);
            Check.due("membersUpTo(2, 999), the member itself", x.membersUpTo(2, 999), 1);
            Check.due("membersUpTo(0, 947)", x.membersUpTo(0, 947), 15);
            Check.due("membersUpTo(0, 948), the member itself", x.membersUpTo(0, 948), 16);
            Check.due("membersUpTo(0, 949)", x.membersUpTo(0, 949), 16);
        });
        Sentences.test("Throws IndexOutOfBoundsException if there is no such list", () -> {
            Refusals.noSuchList((x, list) -> x.membersUpTo(list, 0));
            Refusals.noSuchList((x, list) -> x.membersUpTo(list, 1000));
        });
        Sentences.test("Throws IllegalArgumentException if number is out of range",
                () -> Refusals.outOfRange(0, 999, (x, number) -> x.membersUpTo(0, number)));
    }

    private static void lastMember() {
        Sentences.of("Promise 27: lastMember");
        Sentences.test("Returns the last member of a list.", () -> {
            Check.due("lastMember(0)", sample().lastMember(0), 948);
            Check.due("lastMember(2), the only one", sample().lastMember(2), 999);
        });
        Sentences.test("list: number of a list", () -> {
            RuleLists x = Samples.full();
            Check.due("lastMember(0)", x.lastMember(0), 950);
            Check.due("lastMember(11)", x.lastMember(11), 980);
        });
        Sentences.test("Returns the greatest member;", () -> {
            RuleLists x = sample();
            Check.due("lastMember(1)", x.lastMember(1), 999);
            Check.due("lastMember(5), which has only 0", x.lastMember(5), 0);
        });
        Sentences.test("NONE if the list is empty.", () -> {
            Check.due("lastMember(3)", sample().lastMember(3), RuleLists.NONE);
            Check.due("lastMember(2) between others", Samples.full().lastMember(2), RuleLists.NONE);
        });
        Sentences.test("Throws IndexOutOfBoundsException if there is no such list",
                () -> Refusals.noSuchList((x, list) -> x.lastMember(list)));
    }

    private static void firstShared() {
        Sentences.of("Promise 28: firstShared");
        Sentences.test("Finds the first number that two lists share.", () -> {
            RuleLists x = Look.loaded("Ls00007s00513");
            Check.due("firstShared(0, 1), which share 70 161 252 ..", x.firstShared(0, 1), 70);
        });
        Sentences.test("one: number of a list", () -> {
            Check.due("firstShared(0, 5)", Samples.eleven().firstShared(0, 5), 980);
            Check.due("firstShared(10, 5)", Samples.eleven().firstShared(10, 5), -1);
            Check.due("firstShared(10, 0)", Samples.eleven().firstShared(10, 0), 940);
        });
        Sentences.test("other: number of a list", () -> {
            Check.due("firstShared(5, 0)", Samples.eleven().firstShared(5, 0), 980);
            Check.due("firstShared(0, 10)", Samples.eleven().firstShared(0, 10), 940);
            Check.due("firstShared(10, 10), the same", Samples.eleven().firstShared(10, 10), 910);
        });
        Sentences.test("Returns the least number that is a member of both;", () -> {
            RuleLists x = sample();
            Check.due("firstShared(1, 5), which is 0", x.firstShared(1, 5), 0);
            Check.due("firstShared(1, 2), which is 999", x.firstShared(1, 2), 999);
            Check.due("firstShared(0, 4)", x.firstShared(0, 4), 3);
        });
        Sentences.test("NONE if there is none.", () -> {
            RuleLists x = sample();
            Check.due("firstShared(0, 2)", x.firstShared(0, 2), RuleLists.NONE);
            Check.due("firstShared(4, 5)", x.firstShared(4, 5), RuleLists.NONE);
            Check.due("firstShared(1, 3), one empty", x.firstShared(1, 3), RuleLists.NONE);
            Check.due("firstShared(3, 1), one empty", x.firstShared(3, 1), RuleLists.NONE);
            Check.due("firstShared(3, 3), both empty", x.firstShared(3, 3), RuleLists.NONE);
        });
        Sentences.test("Throws IndexOutOfBoundsException if there is no such list (either of them)", () -> {
            Refusals.noSuchList((x, list) -> x.firstShared(list, 0));
            Refusals.noSuchList((x, list) -> x.firstShared(0, list));
            Refusals.noSuchList((x, list) -> x.firstShared(list, list));
        });
    }

    private static void widestGap() {
        Sentences.of("Promise 29: widestGap");
        Sentences.test("Finds the widest gap of a list.", () -> {
            // 60 90 120 .. 990, of which only 450 is left out.
            RuleLists x = Look.loaded("Ls06030s45099w0001");
            Check.due("widestGap(2)", x.widestGap(2), 60);
        });
        Sentences.test("list: number of a list", () -> {
            Check.due("widestGap(0)", Samples.full().widestGap(0), 50);
            Check.due("widestGap(11)", Samples.full().widestGap(11), 51);
        });
        Sentences.test("Returns the greatest difference of two members, one behind the other;", () -> {
            RuleLists x = Look.loaded("Ls00001s00101w0001s99901j0203s00202v05u05");
            Check.due("widestGap(4), the widest that can be", x.widestGap(4), 999);
            Check.due("widestGap(0), the least that can be", x.widestGap(0), 1);
            // 2 6 12 20 .. 992: the widest one is the last one.
            Check.due("widestGap(7), at the end", x.widestGap(7), 62);
            RuleLists y = Look.loaded("Ls00001s50001w0001s99001j0203");
            // 0 .. 499 990 .. 999.
            Check.due("widestGap(4), in the middle", y.widestGap(4), 491);
            RuleLists z = Look.loaded("Ls00001s00101w0001s10001j0203");
            // 0 100 .. 999.
            Check.due("widestGap(4), at the beginning", z.widestGap(4), 100);
        });
        Sentences.test("0 with fewer than 2 members.", () -> {
            RuleLists x = sample();
            Check.due("widestGap(3), empty", x.widestGap(3), 0);
            Check.due("widestGap(2), which has only 999", x.widestGap(2), 0);
            Check.due("widestGap(5), which has only 0", x.widestGap(5), 0);
            x.makeSteps(998, 1);
            Check.due("widestGap(6), two members", x.widestGap(6), 1);
        });
        Sentences.test("Throws IndexOutOfBoundsException if there is no such list",
                () -> Refusals.noSuchList((x, list) -> x.widestGap(list)));
    }

    private static void readers() {
        Sentences.of("Promise 30: readers");
        Sentences.test("Returns the number of readers.", () -> {
            Check.due("readers() of a new object", new RuleLists().readers(), 0);
            Check.due("readers() of a full object", Samples.full().readers(), 4);
            Check.due("readers() after the only one stopped", Samples.dropped().readers(), 0);
        });
        Sentences.test("Returns how many there are.", () -> {
            RuleLists x = Look.loaded("Ls00101");
            for (int readers = 1; readers <= 4; readers++) {
                x.beginReading(0);
                Check.due("readers()", x.readers(), readers);
            }
            Check.nameOfThrown(() -> x.beginReading(0));
            Check.due("readers() after a 5th was refused", x.readers(), 4);
            x.stopReading(2);
            Check.due("readers() after one stopped", x.readers(), 3);
            x.undo();
            Check.due("readers() after undo()", x.readers(), 4);
        });
    }

    private static void listOf() {
        Sentences.of("Promise 31: listOf");
        Sentences.test("Returns the list that a reader reads.", () -> {
            RuleLists x = Samples.full();
            Check.due("listOf(1)", x.listOf(1), 1);
            Check.due("listOf(2), an empty one", x.listOf(2), 2);
        });
        Sentences.test("reader: number of a reader", () -> {
            Check.due("listOf(0), the first reader", Samples.rich().listOf(0), 1);
            Check.due("listOf(1)", Samples.rich().listOf(1), 0);
            Check.due("listOf(3), the last reader", Samples.full().listOf(3), 11);
        });
        Sentences.test("Returns the number of the list.", () -> {
            RuleLists x = Samples.full();
            Check.due("listOf(0), the lowest", x.listOf(0), 0);
            Check.due("listOf(3), the highest", x.listOf(3), 11);
            x.stopReading(0);
            Check.due("listOf(2) after a stop", x.listOf(2), 11);
            x.read(2);
            Check.due("listOf(2) after it read", x.listOf(2), 11);
        });
        Sentences.test("Throws IndexOutOfBoundsException if there is no such reader",
                () -> Refusals.noSuchReader((x, reader) -> x.listOf(reader)));
    }

    private static void readSoFar() {
        Sentences.of("Promise 32: readSoFar");
        Sentences.test("Returns how many members a reader has read or skipped.", () -> {
            RuleLists x = Samples.four();
            x.read(0);
            x.skip(0, 5);
            x.read(0);
            Check.due("readSoFar(0)", x.readSoFar(0), 7);
        });
        Sentences.test("reader: number of a reader", () -> {
            RuleLists x = Samples.four();
            x.skip(0, 4);
            x.skip(3, 6);
            Check.due("readSoFar(0), the first reader", x.readSoFar(0), 4);
            Check.due("readSoFar(3), the last reader", x.readSoFar(3), 6);
        });
        Sentences.test("Returns how many.", () -> {
            RuleLists x = Samples.four();
            Check.due("readSoFar(0), none", x.readSoFar(0), 0);
            x.skip(0, 99);
            Check.due("readSoFar(0), all", x.readSoFar(0), 99);
            x.skip(0, 99);
            Check.due("readSoFar(0) after a skip at the end", x.readSoFar(0), 99);
            Check.nameOfThrown(() -> x.read(0));
            Check.due("readSoFar(0) after a refused read", x.readSoFar(0), 99);
            x.skip(2, 99);
            Check.due("readSoFar(2), empty", x.readSoFar(2), 0);
            x.goBack(0);
            Check.due("readSoFar(0) after going back", x.readSoFar(0), 0);
            RuleLists all = Look.loaded("Ls00001r00" + "k099".repeat(11));
            Check.due("readSoFar(0), the most that can be", all.readSoFar(0), 1000);
        });
        Sentences.test("Throws IndexOutOfBoundsException if there is no such reader",
                () -> Refusals.noSuchReader((x, reader) -> x.readSoFar(reader)));
    }

    private static void nextOf() {
        Sentences.of("Promise 33: nextOf");
        Sentences.test("Returns the member that a reader would read next.", () -> {
            RuleLists x = Samples.four();
            x.skip(0, 4);
            Check.due("nextOf(0)", x.nextOf(0), 50);
            Check.due("nextOf(0) again", x.nextOf(0), 50);
            Check.due("read(0)", x.read(0), 50);
        });
        Sentences.test("reader: number of a reader", () -> {
            RuleLists x = Samples.four();
            x.skip(3, 6);
            Check.due("nextOf(0), the first reader", x.nextOf(0), 10);
            Check.due("nextOf(3), the last reader", x.nextOf(3), 70);
        });
        Sentences.test("Returns the member;", () -> {
            RuleLists x = Look.loaded("Ls00001r00");
            Check.due("nextOf(0), the member 0", x.nextOf(0), 0);
            for (int times = 0; times < 10; times++) {
                x.skip(0, 99);
            }
            x.skip(0, 9);
            Check.due("nextOf(0), the member 999", x.nextOf(0), 999);
        });
        Sentences.test("NONE if there is none.", () -> {
            RuleLists x = Samples.four();
            Check.due("nextOf(2), an empty list", x.nextOf(2), RuleLists.NONE);
            x.skip(1, 2);
            Check.due("nextOf(1), at the end", x.nextOf(1), RuleLists.NONE);
            x.skip(0, 99);
            Check.due("nextOf(0), at the end", x.nextOf(0), RuleLists.NONE);
            x.goBack(1);
            Check.due("nextOf(1) after going back", x.nextOf(1), 998);
        });
        Sentences.test("Throws IndexOutOfBoundsException if there is no such reader",
                () -> Refusals.noSuchReader((x, reader) -> x.nextOf(reader)));
    }

    private static void readings() {
        Sentences.of("Promise 34: readings");
        Sentences.test("Returns how often a member was read so far, by all readers"
                + " (members that were skipped are not counted).", () -> {
            RuleLists x = Samples.four();
            x.skip(0, 50);
            Check.due("readings() after a skip", x.readings(), 0);
            x.read(0);
            x.read(1);
            x.read(3);
            x.skip(1, 1);
            Check.due("readings() of three readers", x.readings(), 3);
        });
        Sentences.test("Returns how often.", () -> {
            RuleLists x = Samples.four();
            Check.due("readings(), none", x.readings(), 0);
            x.read(1);
            x.goBack(1);
            x.read(1);
            Check.due("readings(), the same member twice", x.readings(), 2);
            x.read(1);
            Check.nameOfThrown(() -> x.read(1));
            Check.due("readings() after a refused read", x.readings(), 3);
            x.stopReading(1);
            Check.due("readings() after the reader stopped", x.readings(), 3);
            x.undo();
            x.undo();
            Check.due("readings() after undo()", x.readings(), 2);
        });
    }

    private static void leastNext() {
        Sentences.of("Promise 35: leastNext");
        Sentences.test("Finds the reader that would read the least number next.", () -> {
            RuleLists x = Look.loaded("Ls00501s00301s00401r00r01r02");
            Check.due("leastNext(), in the middle", x.leastNext(), 1);
            x.skip(1, 2);
            Check.due("leastNext(), the last one", x.leastNext(), 2);
            x.skip(2, 2);
            Check.due("leastNext(), the first one", x.leastNext(), 0);
            RuleLists y = Look.loaded("Ls99901s00001r00r01");
            Check.due("leastNext(), which is 0", y.leastNext(), 1);
        });
        Sentences.test("Returns the reader, of several the lowest;", () -> {
            RuleLists x = Samples.four();
            Check.due("leastNext(), 0 and 3", x.leastNext(), 0);
            x.read(0);
            Check.due("leastNext()", x.leastNext(), 3);
            x.read(3);
            Check.due("leastNext(), 0 and 3 again", x.leastNext(), 0);
            RuleLists all = Look.loaded("Ls99901r00r00r00r00");
            Check.due("leastNext(), all at 999", all.leastNext(), 0);
            all.read(0);
            Check.due("leastNext(), three at 999", all.leastNext(), 1);
        });
        Sentences.test("NONE if no reader would read any.", () -> {
            Check.due("leastNext() of a new object", new RuleLists().leastNext(), RuleLists.NONE);
            Check.due("leastNext() without readers", Samples.eleven().leastNext(), RuleLists.NONE);
            Check.due("leastNext() after the only one stopped", Samples.dropped().leastNext(), RuleLists.NONE);
            RuleLists x = Look.loaded("Ls99901w0000r01r00");
            Check.due("leastNext(), one has a member", x.leastNext(), 1);
            x.read(1);
            Check.due("leastNext(), all are at the end", x.leastNext(), RuleLists.NONE);
        });
    }
}
