/** A test for each sentence of promises 6 to 14. */
final class ListActionSentences {
    interface Make {
        int make(RuleLists x);
    }

    private ListActionSentences() {
    }

    static void test() {
        makeSteps();
        makeScaled();
        makeJoined();
        makeShared();
        makeWithout();
        makeSieved();
        makeThinned();
        makeAddedUp();
        dropLast();
    }

    private static void makeSteps() {
        Sentences.of("Promise 6: makeSteps");
        Sentences.test("Makes a list by steps.", () -> {
            makes(new RuleLists(), x -> x.makeSteps(600, 95), " 600 695 790 885 980");
            makes(Samples.eleven(), x -> x.makeSteps(600, 95), " 600 695 790 885 980");
        });
        Sentences.test("first: 0 to 999", () -> {
            makes(new RuleLists(), x -> x.makeSteps(0, 99), " 0 99 198 297 396 495 594 693 792 891 990");
            makes(new RuleLists(), x -> x.makeSteps(999, 99), " 999");
            makes(new RuleLists(), x -> x.makeSteps(999, 1), " 999");
        });
        Sentences.test("step: 1 to 99", () -> {
            makes(new RuleLists(), x -> x.makeSteps(995, 1), " 995 996 997 998 999");
            makes(new RuleLists(), x -> x.makeSteps(801, 99), " 801 900 999");
            makes(new RuleLists(), x -> x.makeSteps(802, 99), " 802 901");
        });
        Sentences.test("Returns the number of the list.", () -> numbers(x -> x.makeSteps(0, 1)));
        Sentences.test("Throws IllegalArgumentException if first or step is out of range", () -> {
            Refusals.outOfRange(0, 999, (x, first) -> x.makeSteps(first, 1));
            Refusals.outOfRange(1, 99, (x, step) -> x.makeSteps(0, step));
            Refusals.outOfRange(RuleLists::new, x -> x.makeSteps(999, 0));
            Refusals.outOfRange(RuleLists::new, x -> x.makeSteps(-1, 0));
            Refusals.outOfRange(RuleLists::new, x -> x.makeSteps(1000, 100));
        });
        Sentences.test("Throws IllegalStateException if there are 12 lists", () -> noRoom(x -> x.makeSteps(0, 1)));
    }

    private static void makeScaled() {
        Sentences.of("Promise 7: makeScaled");
        Sentences.test("Makes a scaled list.", () -> makes(listed(10, 45), x -> x.makeScaled(0, 7, 3), " 73 388 703"));
        Sentences.test("list: number of a list", () -> {
            makes(Samples.eleven(), x -> x.makeScaled(0, 1, 5), " 905 925 945 965 985");
            makes(Samples.eleven(), x -> x.makeScaled(10, 1, 5), " 915 945 975");
        });
        Sentences.test("factor: 1 to 9", () -> {
            makes(listed(11, 33), x -> x.makeScaled(0, 9, 0), " 99 396 693 990");
            makes(listed(905, 33), x -> x.makeScaled(0, 1, 0), " 905 938 971");
        });
        Sentences.test("plus: 0 to 99", () -> {
            makes(listed(870, 30), x -> x.makeScaled(0, 1, 0), " 870 900 930 960 990");
            makes(listed(870, 30), x -> x.makeScaled(0, 1, 99), " 969 999");
        });
        Sentences.test("Returns the number of the list that is made.", () -> numbers(x -> x.makeScaled(0, 2, 1)));
        Sentences.test("Throws IndexOutOfBoundsException if there is no such list", () -> {
            Refusals.noSuchList((x, list) -> x.makeScaled(list, 1, 0));
            Refusals.noSuchList((x, list) -> x.makeScaled(list, 0, 100));
        });
        Sentences.test("Throws IllegalArgumentException if factor or plus is out of range", () -> {
            Refusals.outOfRange(1, 9, (x, factor) -> x.makeScaled(0, factor, 0));
            Refusals.outOfRange(0, 99, (x, plus) -> x.makeScaled(0, 1, plus));
            Refusals.outOfRange(Samples::rich, x -> x.makeScaled(2, 0, -1));
            Refusals.outOfRange(Samples::rich, x -> x.makeScaled(2, 10, 100));
        });
        Sentences.test("Throws IllegalStateException if there are 12 lists", () -> noRoom(x -> x.makeScaled(0, 1, 0)));
    }

    private static void makeJoined() {
        Sentences.of("Promise 8: makeJoined");
        Sentences.test("Makes a joined list.",
                () -> makes(Samples.eleven(), x -> x.makeJoined(1, 10), " 901 910 922 940 943 964 970 985"));
        Sentences.test("one: number of a list", () -> {
            makes(Samples.eleven(), x -> x.makeJoined(0, 5), " 900 905 920 930 940 955 960 980");
            makes(Samples.eleven(), x -> x.makeJoined(10, 5), " 905 910 930 940 955 970 980");
        });
        Sentences.test("other: number of a list (it can be the same)", () -> {
            makes(Samples.eleven(), x -> x.makeJoined(5, 0), " 900 905 920 930 940 955 960 980");
            makes(Samples.eleven(), x -> x.makeJoined(5, 10), " 905 910 930 940 955 970 980");
            makes(Samples.eleven(), x -> x.makeJoined(10, 10), " 910 940 970");
        });
        Sentences.test("Returns the number of the list that is made.", () -> numbers(x -> x.makeJoined(0, 0)));
        Sentences.test("Throws IndexOutOfBoundsException if there is no such list (either of them)", () -> {
            Refusals.noSuchList((x, list) -> x.makeJoined(list, 0));
            Refusals.noSuchList((x, list) -> x.makeJoined(0, list));
            Refusals.noSuchList((x, list) -> x.makeJoined(list, list));
        });
        Sentences.test("Throws IllegalStateException if there are 12 lists", () -> noRoom(x -> x.makeJoined(0, 11)));
    }

    private static void makeShared() {
        Sentences.of("Promise 9: makeShared");
        Sentences.test("Makes a shared list.", () -> {
            makes(Samples.eleven(), x -> x.makeShared(0, 10), " 940");
            makes(Samples.eleven(), x -> x.makeShared(0, 1), "");
        });
        Sentences.test("one: number of a list", () -> {
            makes(Samples.eleven(), x -> x.makeShared(0, 5), " 980");
            makes(Samples.eleven(), x -> x.makeShared(10, 0), " 940");
        });
        Sentences.test("other: number of a list (it can be the same)", () -> {
            makes(Samples.eleven(), x -> x.makeShared(5, 0), " 980");
            makes(Samples.eleven(), x -> x.makeShared(0, 10), " 940");
            makes(Samples.eleven(), x -> x.makeShared(10, 10), " 910 940 970");
        });
        Sentences.test("Returns the number of the list that is made.", () -> numbers(x -> x.makeShared(0, 0)));
        Sentences.test("Throws IndexOutOfBoundsException if there is no such list (either of them)", () -> {
            Refusals.noSuchList((x, list) -> x.makeShared(list, 0));
            Refusals.noSuchList((x, list) -> x.makeShared(0, list));
            Refusals.noSuchList((x, list) -> x.makeShared(list, list));
        });
        Sentences.test("Throws IllegalStateException if there are 12 lists", () -> noRoom(x -> x.makeShared(0, 11)));
    }

    private static void makeWithout() {
        Sentences.of("Promise 10: makeWithout");
        Sentences.test("Makes a list of one without another one.", () -> {
            makes(Samples.eleven(), x -> x.makeWithout(0, 10), " 900 920 960 980");
            makes(Samples.eleven(), x -> x.makeWithout(0, 1), " 900 920 940 960 980");
        });
        Sentences.test("one: number of a list", () -> {
            makes(Samples.eleven(), x -> x.makeWithout(0, 5), " 900 920 940 960");
            makes(Samples.eleven(), x -> x.makeWithout(10, 0), " 910 970");
        });
        Sentences.test("other: number of a list whose members are left out (it can be the same)", () -> {
            makes(Samples.eleven(), x -> x.makeWithout(5, 0), " 905 930 955");
            makes(Samples.eleven(), x -> x.makeWithout(0, 10), " 900 920 960 980");
            makes(Samples.eleven(), x -> x.makeWithout(10, 10), "");
        });
        Sentences.test("Returns the number of the list that is made.", () -> numbers(x -> x.makeWithout(0, 0)));
        Sentences.test("Throws IndexOutOfBoundsException if there is no such list (either of them)", () -> {
            Refusals.noSuchList((x, list) -> x.makeWithout(list, 0));
            Refusals.noSuchList((x, list) -> x.makeWithout(0, list));
            Refusals.noSuchList((x, list) -> x.makeWithout(list, list));
        });
        Sentences.test("Throws IllegalStateException if there are 12 lists", () -> noRoom(x -> x.makeWithout(0, 11)));
    }

    private static void makeSieved() {
        Sentences.of("Promise 11: makeSieved");
        Sentences.test("Makes a sieved list.", () -> {
            makes(listed(90, 90), x -> x.makeSieved(0), " 90");
            makes(listed(60, 90), x -> x.makeSieved(0), " 60 150 330 510 690 870");
        });
        Sentences.test("list: number of a list", () -> {
            makes(Samples.eleven(), x -> x.makeSieved(0), " 900 920 940 960 980");
            makes(Samples.eleven(), x -> x.makeSieved(10), " 910 940 970");
        });
        Sentences.test("Returns the number of the list that is made.", () -> numbers(x -> x.makeSieved(0)));
        Sentences.test("Throws IndexOutOfBoundsException if there is no such list",
                () -> Refusals.noSuchList((x, list) -> x.makeSieved(list)));
        Sentences.test("Throws IllegalStateException if there are 12 lists", () -> noRoom(x -> x.makeSieved(11)));
    }

    private static void makeThinned() {
        Sentences.of("Promise 12: makeThinned");
        Sentences.test("Makes a thinned list.", () -> makes(listed(700, 40), x -> x.makeThinned(0, 3), " 780 900"));
        Sentences.test("list: number of a list", () -> {
            makes(Samples.eleven(), x -> x.makeThinned(0, 2), " 920 960");
            makes(Samples.eleven(), x -> x.makeThinned(10, 2), " 940");
        });
        Sentences.test("every: 1 to 9: each member whose place can be divided by this number", () -> {
            makes(listed(800, 50), x -> x.makeThinned(0, 1), " 800 850 900 950");
            makes(listed(800, 50), x -> x.makeThinned(0, 4), " 950");
            makes(listed(800, 50), x -> x.makeThinned(0, 5), "");
            makes(listed(500, 25), x -> x.makeThinned(0, 9), " 700 925");
            makes(listed(802, 25), x -> x.makeThinned(0, 9), "");
        });
        Sentences.test("Returns the number of the list that is made.", () -> numbers(x -> x.makeThinned(0, 1)));
        Sentences.test("Throws IndexOutOfBoundsException if there is no such list", () -> {
            Refusals.noSuchList((x, list) -> x.makeThinned(list, 1));
            Refusals.noSuchList((x, list) -> x.makeThinned(list, 0));
        });
        Sentences.test("Throws IllegalArgumentException if every is out of range",
                () -> Refusals.outOfRange(1, 9, (x, every) -> x.makeThinned(0, every)));
        Sentences.test("Throws IllegalStateException if there are 12 lists", () -> noRoom(x -> x.makeThinned(11, 9)));
    }

    private static void makeAddedUp() {
        Sentences.of("Promise 13: makeAddedUp");
        Sentences.test("Makes an added up list.",
                () -> makes(listed(90, 70), x -> x.makeAddedUp(0), " 90 250 480 780"));
        Sentences.test("list: number of a list", () -> {
            makes(Samples.eleven(), x -> x.makeAddedUp(0), " 900");
            makes(Samples.eleven(), x -> x.makeAddedUp(10), " 910");
        });
        Sentences.test("Returns the number of the list that is made.", () -> numbers(x -> x.makeAddedUp(0)));
        Sentences.test("Throws IndexOutOfBoundsException if there is no such list",
                () -> Refusals.noSuchList((x, list) -> x.makeAddedUp(list)));
        Sentences.test("Throws IllegalStateException if there are 12 lists", () -> noRoom(x -> x.makeAddedUp(11)));
    }

    private static void dropLast() {
        Sentences.of("Promise 14: dropLast");
        Sentences.test("Drops the last list.", () -> {
            RuleLists x = listed(950, 20);
            x.makeSteps(970, 9);
            x.makeSteps(960, 30);
            x.dropLast();
            Check.due("the list ahead of it", Look.members(x, 1), " 970 979 988 997");
            Check.due("the first list", Look.members(x, 0), " 950 970 990");
            Check.due("isMember(2, 960)", Check.nameOfThrown(() -> x.isMember(2, 960)),
                    IndexOutOfBoundsException.class.getName());
            makes(x, y -> y.makeSteps(980, 15), " 980 995");
        });
        Sentences.test("Returns how many lists there are then.", () -> {
            RuleLists x = Samples.full();
            x.stopReading(3);
            for (int left = 11; left >= 3; left--) {
                Check.due("dropLast()", x.dropLast(), left);
                Check.due("lists()", x.lists(), left);
            }
            RuleLists only = listed(1, 1);
            Check.due("dropLast() of the only one", only.dropLast(), 0);
        });
        Sentences.test("Throws IllegalStateException if it may not be dropped", () -> {
            Refusals.notNow(RuleLists::new, RuleLists::dropLast);
            Refusals.notNow(Samples::dropped, RuleLists::dropLast);
            Refusals.notNow(Samples::full, RuleLists::dropLast);
            for (int reader = 0; reader < 4; reader++) {
                int last = reader;
                Refusals.notNow(() -> readLastly(last), RuleLists::dropLast);
            }
            RuleLists others = Samples.four();
            Check.due("dropLast() of a list that no reader reads", others.dropLast(), 3);
            RuleLists x = Look.loaded("Ls99901r00n0");
            Check.due("dropLast() at its end", Check.nameOfThrown(x::dropLast), IllegalStateException.class.getName());
            x.stopReading(0);
            Check.due("dropLast() after the reader stopped", x.dropLast(), 0);
        });
    }

    /** Four readers, of which just one reads the last list. */
    private static RuleLists readLastly(int reader) {
        RuleLists x = new RuleLists();
        x.makeSteps(1, 1);
        x.makeSteps(2, 1);
        for (int number = 0; number < 4; number++) {
            x.beginReading(number == reader ? 1 : 0);
        }
        return x;
    }

    private static RuleLists listed(int first, int step) {
        RuleLists x = new RuleLists();
        x.makeSteps(first, step);
        return x;
    }

    private static void makes(RuleLists x, Make call, String members) {
        int made = call.make(x);
        Check.due("the members of " + made, Look.members(x, made), members);
    }

    /** The numbers begin behind the lists that there are, also after one is dropped, up to the twelfth. */
    private static void numbers(Make call) {
        RuleLists x = listed(900, 10);
        for (int number = 1; number <= 11; number++) {
            Check.due("the number", call.make(x), number);
        }
        x.dropLast();
        x.dropLast();
        Check.due("the number after two were dropped", call.make(x), 10);
        Check.due("lists()", x.lists(), 11);
    }

    private static void noRoom(Make call) {
        Refusals.notNow(Samples::full, call::make);
        RuleLists x = Samples.full();
        x.stopReading(3);
        x.dropLast();
        x.makeSteps(3, 3);
        Check.due("with 12 lists again", Check.nameOfThrown(() -> call.make(x)), IllegalStateException.class.getName());
    }
}
