/** A test for each sentence of "What it is", and of "Terms" up to the pairs. */
final class TermsSentences {
    private TermsSentences() {
    }

    static void test() {
        whatItIs();
        lists();
        rules();
        readers();
        pairs();
    }

    private static void whatItIs() {
        Sentences.of("What it is");
        Sentences.namesNoCase("Lists of numbers that are made by rules and read one by one: lists by steps, lists of other"
                + " lists that are scaled, joined, shared, sieved, thinned out or added up, readers that read as far as they"
                + " need, numbers that are members or not, places of members.");
        Sentences.test("An object is used for at most 512 calls after it has been made;", () -> {
            RuleLists x = new RuleLists();
            x.makeSteps(0, 1);
            x.beginReading(0);
            for (int member = 0; member < 508; member++) {
                Check.due("read(0)", x.read(0), member);
            }
            Check.due("readings(), the 511th call", x.readings(), 508);
            Check.due("undo(), the 512th call", x.undo(), 13);
            RuleLists y = new RuleLists();
            for (int times = 0; times < 256; times++) {
                Check.due("makeSteps", y.makeSteps(999, 1), 0);
                Check.due("undo(), the 512th call at last", y.undo(), 0);
            }
        });
        Sentences.namesNoCase("what later calls answer is free.");
    }

    private static void lists() {
        Sentences.of("Terms");
        Sentences.test("Each member can be found by reading the list from its beginning,"
                + " or by testing one number after the other;", () -> {
            RuleLists x = eachRule();
            String[] first = {"900", "910", "905", "900", "910", "920", "900", "910", "900"};
            for (int list = 0; list < x.lists(); list++) {
                Check.due("by reading " + list, String.valueOf(x.memberByReading(list, 0)), first[list]);
                Check.due("by testing " + list, String.valueOf(x.memberByTesting(list, 0)), first[list]);
            }
        });
        Sentences.test("both must agree.", () -> {
            for (int list = 0; list < 9; list++) {
                RuleLists x = eachRule();
                int members = x.membersUpTo(list, 999);
                for (int place = 0; place <= members + 1; place++) {
                    int found = x.memberByReading(list, place);
                    Check.due("memberByTesting(" + list + ", " + place + ")", x.memberByTesting(list, place), found);
                    Check.due("beyond the end", found == RuleLists.NONE, place >= members);
                }
            }
            RuleLists all = Look.loaded("Ls00001s99901");
            for (int place : new int[] {0, 1, 63, 64, 500, 998, 999, 1000}) {
                Check.due("memberByTesting(0, " + place + ")", all.memberByTesting(0, place), all.memberByReading(0, place));
                Check.due("memberByTesting(1, " + place + ")", all.memberByTesting(1, place), all.memberByReading(1, place));
            }
        });
        Sentences.namesNoCase("It tells, too, how many members there are up to a number, the first number that two lists"
                + " share, what a reader comes to next, the pairs of places by corners, in two ways as well, why the last list"
                + " may not be dropped.");
        Sentences.test("Changes can be undone.", () -> {
            for (Actions.Action action : Actions.ALL) {
                RuleLists x = Samples.rich();
                String before = Look.state(x);
                action.call(x);
                x.undo();
                Check.due("the state", Look.state(x), before);
            }
        });
        Sentences.test("There are at most 12 lists, numbered from 0.", () -> {
            RuleLists x = new RuleLists();
            for (int list = 0; list < 12; list++) {
                Check.due("makeSteps", x.makeSteps(list, 90), list);
            }
            Check.due("the 13th", Check.nameOfThrown(() -> x.makeSteps(0, 1)), IllegalStateException.class.getName());
            Check.due("lists()", x.lists(), 12);
            for (int list = 0; list < 12; list++) {
                Check.due("the list " + list, x.memberByReading(list, 0), list);
            }
            Check.due("load() of 13 lists", Texts.skippedOf("Ls00101" + "v00".repeat(12)), 1);
            Check.due("60 turns that may make lists", new RuleLists().simulate(3, 60) / 10000 <= 12, true);
        });
        Sentences.test("A list is a row of numbers, each greater than the one before;", () -> {
            for (int list = 0; list < 9; list++) {
                RuleLists x = eachRule();
                int before = -1;
                for (int place = 0; place < x.membersUpTo(list, 999); place++) {
                    int member = x.memberByReading(list, place);
                    Check.due("greater than " + before, member > before, true);
                    before = member;
                }
                Check.due("the last one", x.lastMember(list), before);
            }
        });
        Sentences.test("numbers above 999 are left out of each list, so a list can come to an end, or be empty.",
                TermsSentences::leftOut);
        Sentences.test("A list is made by one of these rules, and stays as it is:", () -> {
            RuleLists x = eachRule();
            x.makeSteps(0, 1);
            x.makeJoined(9, 0);
            x.makeWithout(9, 9);
            x.beginReading(0);
            x.skip(0, 3);
            x.dropLast();
            x.undo();
            x.simulate(1, 60);
            String due = Look.state(eachRule()).split(" / ", 2)[1];
            Check.due("the first nine lists", Look.state(x).split(" / ", 2)[1].substring(0, due.length()), due);
            Check.due("the first list", Look.members(x, 0), " 900 920 940 960 980");
        });
    }

    /** 0: 900 920 ..; 1: 910 940 970; then a list by each of the other seven rules. */
    private static RuleLists eachRule() {
        RuleLists x = new RuleLists();
        x.makeSteps(900, 20);
        x.makeSteps(910, 30);
        x.makeScaled(0, 1, 5);
        x.makeJoined(0, 1);
        x.makeShared(1, 3);
        x.makeThinned(0, 2);
        x.makeWithout(0, 1);
        x.makeSieved(1);
        x.makeAddedUp(0);
        return x;
    }

    private static void leftOut() {
        Texts.lastList("s99801", " 998 999");
        Texts.lastList("s98020", " 980");
        Texts.lastList("s90099", " 900 999");
        Texts.lastList("s90199", " 901");
        // 111 * 9 is 999; 112 * 9 is not in the list.
        Texts.lastList("s11101x00900", " 999");
        Texts.lastList("s11201x00900", "");
        Texts.lastList("s50001x00200", "");
        Texts.lastList("s99001x00109", " 999");
        Texts.lastList("s99001x00110", "");
        Texts.lastList("s49950u00", " 499");
        // 499 and 500 are 999 together, 499 and 501 are 1000.
        Texts.lastList("s49901u00", " 499 999");
        Texts.lastList("s49902u00", " 499");
        Texts.lastList("s33301u00", " 333 667");
        Texts.lastList("s33201u00", " 332 665 999");
        Texts.lastList("s33201u00u01", " 332 997");
        Texts.lastList("s33401u00e012u02", " 669");
        Texts.lastList("s99901w0000", "");
        Texts.lastList("s99901e002", "");
        Texts.lastList("s99901e002v01", "");
        Texts.lastList("s99901e002x01900", "");
        Texts.lastList("s99901e002j0101", "");
        Texts.lastList("s99901e002h0100", "");
        Texts.lastList("s99901e002w0100", "");
        Texts.lastList("s99901e002e011", "");
        Texts.lastList("s99901e002u01", "");
    }

    private static void rules() {
        Sentences.test("steps: it begins with a first number, and each next one is greater by the step.", () -> {
            Texts.lastList("s00099", " 0 99 198 297 396 495 594 693 792 891 990");
            Texts.lastList("s99501", " 995 996 997 998 999");
            Texts.lastList("s99999", " 999");
            Check.due("all numbers", Look.loaded("Ls00001").membersUpTo(0, 999), 1000);
        });
        Sentences.test("scaled: each member of another list, times a factor, with a number added to it.", () -> {
            Texts.lastList("s00050x00307", " 7 157 307 457 607 757 907");
            Texts.lastList("s00050x00999", " 99 549 999");
            Texts.lastList("s80050x00100", " 800 850 900 950");
            Check.due("the member 0 alone", Look.members(Look.loaded("Ls00001s00101w0001x02999"), 3), " 99");
            Check.due("all numbers", Look.loaded("Ls00001x00100").membersUpTo(1, 999), 1000);
        });
        Sentences.test("joined: all members of one list or another one, each once.", () -> {
            Texts.lastList("s90030s91015j0001", " 900 910 925 930 940 955 960 970 985 990");
            Texts.lastList("s90030s90015j0001", " 900 915 930 945 960 975 990");
            Texts.lastList("s90030j0000", " 900 930 960 990");
            Texts.lastList("s90030w0000j0001", " 900 930 960 990");
            Texts.lastList("s90030w0000j0100", " 900 930 960 990");
            Check.due("even and odd", Look.loaded("Ls00002s00102j0001").membersUpTo(2, 999), 1000);
        });
        Sentences.test("shared: all members of one list that are members of another one, too.", () -> {
            Texts.lastList("s90030s90020h0001", " 900 960");
            Texts.lastList("s90030s90020h0100", " 900 960");
            Texts.lastList("s90030s90160h0001", "");
            Texts.lastList("s90030h0000", " 900 930 960 990");
            Texts.lastList("s90030w0000h0001", "");
            Texts.lastList("s00001s99901h0001", " 999");
        });
        Sentences.test("without: all members of one list that are not members of another one.", () -> {
            Texts.lastList("s90030s90020w0001", " 930 990");
            Texts.lastList("s90030s90020w0100", " 920 940 980");
            Texts.lastList("s90030w0000", "");
            Texts.lastList("s90030w0000w0001", " 900 930 960 990");
            Texts.lastList("s90030w0000w0100", "");
            Texts.lastList("s00001s00101w0001", " 0");
        });
        Sentences.test("sieved: of another list, from its first member on, those that cannot be divided without a rest by a"
                + " member greater than 1 that is kept ahead of them.", TermsSentences::sieved);
        Sentences.test("thinned: of another list each member whose place, counted from 1 on, can be divided by a number.",
                () -> {
            Texts.lastList("s80050e001", " 800 850 900 950");
            Texts.lastList("s80050e002", " 850 950");
            Texts.lastList("s80050e003", " 900");
            Texts.lastList("s80050e004", " 950");
            Texts.lastList("s80050e005", "");
            Texts.lastList("s00099e009", " 792");
            Check.due("every 9th of all", Look.loaded("Ls00001e009").membersUpTo(1, 999), 111);
            Check.due("the last one of them", Look.loaded("Ls00001e009").lastMember(1), 998);
        });
        Sentences.test("added up: for each member of another list the sum of this one and of all ahead of it.", () -> {
            Texts.lastList("s10050u00", " 100 250 450 700");
            Texts.lastList("s90050u00", " 900");
            Texts.lastList("s00099u00", " 0 99 297 594 990");
            Texts.lastList("s99901u00", " 999");
            Check.due("of all numbers", Look.loaded("Ls00001u00").membersUpTo(1, 999), 45);
        });
    }

    private static void sieved() {
        // From its first member on: it is kept, whatever it is.
        Texts.lastList("s99901v00", " 999");
        Texts.lastList("s80050v00", " 800 850 900 950");
        Texts.lastList("s00050v00", " 0 50");
        Texts.lastList("s00099v00", " 0 99");
        // 0 and 1 are not greater than 1, 2 is.
        RuleLists fromOne = Look.loaded("Ls00101v00");
        Check.due("from 1 on, up to 10", fromOne.membersUpTo(1, 10), 5);
        Check.due("from 1 on, 1", fromOne.isMember(1, 1), true);
        RuleLists fromZero = Look.loaded("Ls00001v00");
        Check.due("from 0 on, up to 10", fromZero.membersUpTo(1, 10), 6);
        Check.due("from 0 on, 0", fromZero.isMember(1, 0), true);
        RuleLists fromTwo = Look.loaded("Ls00201v00");
        Check.due("from 2 on", fromTwo.membersUpTo(1, 999), 168);
        Check.due("from 2 on, the last one", fromTwo.lastMember(1), 997);
        Check.due("from 2 on, 961 is 31 * 31", fromTwo.isMember(1, 961), false);
        Texts.lastList("s00202v00", " 2");
        // A member is struck out by those ahead of it only: 6 stays in 4 6 10.
        RuleLists even = Look.loaded("Ls00402v00");
        Check.due("4 6 10 14 22 26", even.membersUpTo(1, 27), 6);
        Check.due("12 is struck out by 4 and 6", even.isMember(1, 12), false);
        Check.due("998 is 2 * 499", even.isMember(1, 998), true);
        // 500 is the last one that has a multiple, 999 the last that is struck out.
        Texts.lastList("s49950v00", " 499 549 599 649 699 749 799 849 899 949 999");
        Texts.lastList("s50099v00", " 500 599 698 797 896 995");
        Texts.lastList("s33366v00", " 333 399 465 531 597 663 729 795 861 927 993");
        Texts.lastList("s33398v00", " 333 431 529 627 725 823 921");
        Texts.lastList("s33374v00", " 333 407 481 555 629 703 777 851 925");
        // 333 to 665 stay, and the odd ones up to 997.
        Check.due("333 and all behind it", Look.loaded("Ls33301v00").membersUpTo(1, 999), 333 + 166);
        Check.due("333 strikes out 999", Look.loaded("Ls33301v00").isMember(1, 999), false);
    }

    private static void readers() {
        Sentences.test("There are at most 4 readers, numbered from 0 in the order in which they began;", () -> {
            RuleLists x = Samples.eleven();
            for (int reader = 0; reader < 4; reader++) {
                Check.due("beginReading", x.beginReading(10 - reader), reader);
            }
            for (int reader = 0; reader < 4; reader++) {
                Check.due("listOf(" + reader + ")", x.listOf(reader), 10 - reader);
            }
            Check.due("the 5th", Check.nameOfThrown(() -> x.beginReading(0)), IllegalStateException.class.getName());
            Check.due("readers()", x.readers(), 4);
            Check.due("load() of 5 readers", Texts.skippedOf("Ls00101r00r00r00r00r00"), 1);
        });
        Sentences.test("when one stops, those that began later get numbers that are 1 less.", () -> {
            String[] all = {"0 3 40", "1 1 999", "2 0 -1", "0 7 80"};
            for (int gone = 0; gone < 4; gone++) {
                RuleLists x = Samples.four();
                x.skip(0, 3);
                x.skip(1, 1);
                x.skip(3, 7);
                x.stopReading(gone);
                for (int reader = 0; reader < 3; reader++) {
                    Check.due(gone + " stops, " + reader, Look.reader(x, reader), all[reader < gone ? reader : reader + 1]);
                }
                Check.due("the next one that begins", x.beginReading(3), 3);
                Check.due("it has the last number", Look.reader(x, 3), "3 0 5");
            }
        });
        Sentences.test("A reader reads a list, and has read some of its first members (none at first).", () -> {
            RuleLists x = Samples.four();
            Check.due("at first", Look.reader(x, 0), "0 0 10");
            Check.due("at first, in an empty list", Look.reader(x, 2), "2 0 -1");
            x.skip(3, 40);
            x.stopReading(3);
            x.beginReading(0);
            Check.due("at first, where another one had been", Look.reader(x, 3), "0 0 10");
            x.read(3);
            x.read(3);
            Check.due("after two", Look.reader(x, 3), "0 2 30");
        });
    }

    private static void pairs() {
        Sentences.test("The pairs of places are numbered by corners: the pair 0 is (0, 0);", () -> {
            RuleLists x = new RuleLists();
            Check.due("numberOfPair(0, 0)", x.numberOfPair(0, 0), 0);
            Check.due("firstOfPairByWalking(0)", x.firstOfPairByWalking(0), 0);
            Check.due("firstOfPairByCounting(0)", x.firstOfPairByCounting(0), 0);
        });
        Sentences.test("the corner n has the pairs (0, n), (1, n - 1), and so on, up to (n, 0), in this order,"
                + " and comes behind the corner n - 1.", () -> {
            int number = 0;
            for (int corner = 0; corner <= 200; corner++) {
                RuleLists x = new RuleLists();
                for (int first = 0; first <= corner; first++) {
                    Check.due("numberOfPair(" + first + ", " + (corner - first) + ")",
                            x.numberOfPair(first, corner - first), number);
                    number++;
                }
                Check.due("the first pair of the corner", x.firstOfPairByWalking(number - corner - 1), 0);
                Check.due("the last pair of the corner", x.firstOfPairByCounting(number - 1), corner);
            }
        });
    }
}
