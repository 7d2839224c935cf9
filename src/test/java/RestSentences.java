import java.math.BigInteger;

/** A test for each sentence of promises 36 to 44. */
final class RestSentences {
    interface Pair {
        int first(RuleLists x, int pair);
    }

    private RestSentences() {
    }

    static void test() {
        firstOfPairByWalking();
        firstOfPairByCounting();
        numberOfPair();
        whyNoDrop();
        membersIfJoined();
        skipsTo();
        simulate();
        simulatedTurns();
        simulateAnswers();
        save();
        restore();
    }

    private static void firstOfPairByWalking() {
        Sentences.of("Promise 36: firstOfPairByWalking");
        Sentences.test("Returns the first place of a pair, found by walking along the corners.",
                () -> corners(RuleLists::firstOfPairByWalking, 20));
        Sentences.test("pair: 0 to 99999", () -> {
            Check.due("firstOfPairByWalking(0)", new RuleLists().firstOfPairByWalking(0), 0);
            Check.due("firstOfPairByWalking(1)", new RuleLists().firstOfPairByWalking(1), 0);
            Check.due("firstOfPairByWalking(99998)", new RuleLists().firstOfPairByWalking(99998), 317);
            Check.due("firstOfPairByWalking(99999)", new RuleLists().firstOfPairByWalking(99999), 318);
        });
        Sentences.test("Returns the first place of the pair with this number.", () -> {
            int[][] due = {{2, 1}, {3, 0}, {5, 2}, {6, 0}, {9, 3}, {10, 0}, {99234, 444}, {99235, 0}, {99680, 445}, {99681, 0}};
            for (int[] row : due) {
                Check.due("firstOfPairByWalking(" + row[0] + ")", new RuleLists().firstOfPairByWalking(row[0]), row[1]);
            }
        });
        Sentences.test("Throws IllegalArgumentException if pair is out of range",
                () -> Refusals.outOfRange(0, 99999, RuleLists::firstOfPairByWalking));
    }

    private static void firstOfPairByCounting() {
        Sentences.of("Promise 37: firstOfPairByCounting");
        Sentences.test("Returns the first place of a pair, found by how many pairs there are ahead of a corner.",
                () -> corners(RuleLists::firstOfPairByCounting, 20));
        Sentences.test("pair: 0 to 99999", () -> {
            Check.due("firstOfPairByCounting(0)", new RuleLists().firstOfPairByCounting(0), 0);
            Check.due("firstOfPairByCounting(1)", new RuleLists().firstOfPairByCounting(1), 0);
            Check.due("firstOfPairByCounting(99998)", new RuleLists().firstOfPairByCounting(99998), 317);
            Check.due("firstOfPairByCounting(99999)", new RuleLists().firstOfPairByCounting(99999), 318);
        });
        Sentences.test("Returns the same as firstOfPairByWalking().", () -> {
            // The first pair, the last one and one between of each corner, up to the last pair of all.
            for (int corner = 0; corner <= 446; corner++) {
                RuleLists x = new RuleLists();
                int begin = corner * (corner + 1) / 2;
                for (int pair : new int[] {begin, begin + corner / 2, begin + corner}) {
                    int asked = Math.min(pair, 99999);
                    Check.due("firstOfPairByCounting(" + asked + ")", x.firstOfPairByCounting(asked),
                            x.firstOfPairByWalking(asked));
                }
            }
        });
        Sentences.test("Throws IllegalArgumentException if pair is out of range",
                () -> Refusals.outOfRange(0, 99999, RuleLists::firstOfPairByCounting));
    }

    private static void corners(Pair pair, int corners) {
        RuleLists x = new RuleLists();
        int number = 0;
        for (int corner = 0; corner < corners; corner++) {
            for (int first = 0; first <= corner; first++) {
                Check.due("the first place of " + number, pair.first(x, number), first);
                number++;
            }
        }
    }

    private static void numberOfPair() {
        Sentences.of("Promise 38: numberOfPair");
        Sentences.test("Returns the number of a pair.", () -> {
            RuleLists x = new RuleLists();
            Check.due("numberOfPair(1, 1)", x.numberOfPair(1, 1), 4);
            Check.due("numberOfPair(3, 4)", x.numberOfPair(3, 4), 31);
        });
        Sentences.test("first: 0 to 200: its first place", () -> {
            RuleLists x = new RuleLists();
            Check.due("numberOfPair(0, 7)", x.numberOfPair(0, 7), 28);
            Check.due("numberOfPair(200, 7)", x.numberOfPair(200, 7), 21728);
            Check.due("numberOfPair(7, 0)", x.numberOfPair(7, 0), 35);
        });
        Sentences.test("second: 0 to 200: its second place", () -> {
            RuleLists x = new RuleLists();
            Check.due("numberOfPair(2, 0)", x.numberOfPair(2, 0), 5);
            Check.due("numberOfPair(2, 200)", x.numberOfPair(2, 200), 20505);
        });
        Sentences.test("Returns the number of the pair.", () -> {
            RuleLists x = new RuleLists();
            Check.due("numberOfPair(0, 0)", x.numberOfPair(0, 0), 0);
            Check.due("numberOfPair(0, 1)", x.numberOfPair(0, 1), 1);
            Check.due("numberOfPair(1, 0)", x.numberOfPair(1, 0), 2);
            Check.due("numberOfPair(0, 200)", x.numberOfPair(0, 200), 20100);
            Check.due("numberOfPair(200, 0)", x.numberOfPair(200, 0), 20300);
            Check.due("numberOfPair(200, 200)", x.numberOfPair(200, 200), 80400);
            Check.due("the first place of 80400", x.firstOfPairByWalking(80400), 200);
        });
        Sentences.test("Throws IllegalArgumentException if first or second is out of range", () -> {
            Refusals.outOfRange(0, 200, (x, first) -> x.numberOfPair(first, 0));
            Refusals.outOfRange(0, 200, (x, second) -> x.numberOfPair(0, second));
            Refusals.outOfRange(RuleLists::new, x -> x.numberOfPair(-1, 1));
            Refusals.outOfRange(RuleLists::new, x -> x.numberOfPair(201, -201));
        });
    }

    private static void whyNoDrop() {
        Sentences.of("Promise 39: whyNoDrop");
        Sentences.test("Tells why the last list may not be dropped.", () -> {
            RuleLists x = Samples.full();
            Check.due("whyNoDrop() of a list that the reader 3 reads", x.whyNoDrop(), 2);
            x.stopReading(3);
            Check.due("whyNoDrop() after it stopped", x.whyNoDrop(), 0);
            x.dropLast();
            x.beginReading(10);
            x.stopReading(0);
            x.stopReading(0);
            x.stopReading(0);
            Check.due("whyNoDrop() of a list that the only reader reads", x.whyNoDrop(), 2);
        });
        Sentences.test("Returns 1 if there is none, 2 if a reader reads it, otherwise 0.", () -> {
            Check.due("whyNoDrop() of a new object", new RuleLists().whyNoDrop(), 1);
            Check.due("whyNoDrop() after the only one is dropped", Samples.dropped().whyNoDrop(), 1);
            Check.due("whyNoDrop() of a list that is read", Look.loaded("Ls00101r00").whyNoDrop(), 2);
            Check.due("whyNoDrop() of a list that is read to its end", Look.loaded("Ls99901r00n0").whyNoDrop(), 2);
            Check.due("whyNoDrop() of an empty list that is read", Look.loaded("Ls99901w0000r01").whyNoDrop(), 2);
            Check.due("whyNoDrop() of a list that is not read", Look.loaded("Ls00101").whyNoDrop(), 0);
            Check.due("whyNoDrop() beside lists that are read", Samples.four().whyNoDrop(), 0);
        });
    }

    private static void membersIfJoined() {
        Sentences.of("Promise 40: membersIfJoined");
        Sentences.test("Tells how many members a list would have with the members of another one.", () -> {
            RuleLists x = Samples.eleven();
            Check.due("membersIfJoined(0, 10), which share one", x.membersIfJoined(0, 10), 7);
            Check.due("membersIfJoined(0, 1), which share none", x.membersIfJoined(0, 1), 10);
            Check.due("lists()", x.lists(), 11);
        });
        Sentences.test("one: number of a list", () -> {
            Check.due("membersIfJoined(0, 5)", Samples.eleven().membersIfJoined(0, 5), 8);
            Check.due("membersIfJoined(10, 5)", Samples.eleven().membersIfJoined(10, 5), 7);
        });
        Sentences.test("other: number of a list", () -> {
            Check.due("membersIfJoined(5, 0)", Samples.eleven().membersIfJoined(5, 0), 8);
            Check.due("membersIfJoined(5, 10)", Samples.eleven().membersIfJoined(5, 10), 7);
            Check.due("membersIfJoined(10, 10), the same", Samples.eleven().membersIfJoined(10, 10), 3);
        });
        Sentences.test("Returns how many a joined list of both would have.", () -> {
            RuleLists x = Look.loaded("Ls00002s00003s00102w0000");
            Check.due("membersIfJoined(0, 2), all numbers", x.membersIfJoined(0, 2), 1000);
            Check.due("membersIfJoined(0, 1)", x.membersIfJoined(0, 1), 667);
            Check.due("membersIfJoined(3, 3), both empty", x.membersIfJoined(3, 3), 0);
            Check.due("membersIfJoined(3, 0), one empty", x.membersIfJoined(3, 0), 500);
            x.makeJoined(0, 1);
            Check.due("membersUpTo of the joined list", x.membersUpTo(4, 999), 667);
            // Also where there is no room for the joined list.
            Check.due("membersIfJoined(0, 1) of 12 lists", Samples.full().membersIfJoined(0, 1), 21);
        });
        Sentences.test("Throws IndexOutOfBoundsException if there is no such list (either of them)", () -> {
            Refusals.noSuchList((x, list) -> x.membersIfJoined(list, 0));
            Refusals.noSuchList((x, list) -> x.membersIfJoined(0, list));
            Refusals.noSuchList((x, list) -> x.membersIfJoined(list, list));
        });
    }

    private static void skipsTo() {
        Sentences.of("Promise 41: skipsTo");
        Sentences.test("Tells how many members a reader has to skip, until it would read a number, or a greater one.",
                () -> {
            RuleLists x = Samples.four();
            Check.due("skipsTo(0, 50), a member", x.skipsTo(0, 50), 4);
            Check.due("skipsTo(0, 51), no member", x.skipsTo(0, 51), 5);
            Check.due("the reader", Look.reader(x, 0), "0 0 10");
            Check.due("skip(0, 5)", x.skip(0, 5), 5);
            Check.due("nextOf(0)", x.nextOf(0), 60);
        });
        Sentences.test("reader: number of a reader", () -> {
            RuleLists x = Samples.four();
            x.skip(3, 2);
            Check.due("skipsTo(0, 100), the first reader", x.skipsTo(0, 100), 9);
            Check.due("skipsTo(3, 100), the last reader", x.skipsTo(3, 100), 7);
        });
        Sentences.test("number: 0 to 999", () -> {
            RuleLists x = Look.loaded("Ls00001r00");
            Check.due("skipsTo(0, 0)", x.skipsTo(0, 0), 0);
            Check.due("skipsTo(0, 999)", x.skipsTo(0, 999), 999);
        });
        Sentences.test("Returns how many;", () -> {
            RuleLists x = Samples.four();
            x.skip(0, 4);
            Check.due("skipsTo(0, 0), which it has passed", x.skipsTo(0, 0), 0);
            Check.due("skipsTo(0, 49), which it has passed", x.skipsTo(0, 49), 0);
            Check.due("skipsTo(0, 50), where it is", x.skipsTo(0, 50), 0);
            Check.due("skipsTo(0, 51)", x.skipsTo(0, 51), 1);
            Check.due("skipsTo(0, 990), the last one", x.skipsTo(0, 990), 94);
            Check.due("skipsTo(1, 999), the last one", x.skipsTo(1, 999), 1);
        });
        Sentences.test("NONE if it would not come to such a one.", () -> {
            RuleLists x = Samples.four();
            Check.due("skipsTo(0, 991), behind the last one", x.skipsTo(0, 991), RuleLists.NONE);
            Check.due("skipsTo(0, 999), behind the last one", x.skipsTo(0, 999), RuleLists.NONE);
            Check.due("skipsTo(2, 0), an empty list", x.skipsTo(2, 0), RuleLists.NONE);
            x.skip(1, 2);
            Check.due("skipsTo(1, 0) at the end", x.skipsTo(1, 0), RuleLists.NONE);
            Check.due("skipsTo(1, 999) at the end", x.skipsTo(1, 999), RuleLists.NONE);
        });
        Sentences.test("Throws IndexOutOfBoundsException if there is no such reader", () -> {
            Refusals.noSuchReader((x, reader) -> x.skipsTo(reader, 0));
            Refusals.noSuchReader((x, reader) -> x.skipsTo(reader, 1000));
        });
        Sentences.test("Throws IllegalArgumentException if number is out of range",
                () -> Refusals.outOfRange(0, 999, (x, number) -> x.skipsTo(0, number)));
    }

    private static void simulate() {
        Sentences.of("Promise 42: simulate");
        Sentences.test("Simulates some turns on a copy.", () -> {
            for (long seed = 0; seed < 20; seed++) {
                RuleLists x = Samples.rich();
                int once = x.simulate(seed, 60);
                Check.due("simulate() again", x.simulate(seed, 60), once);
                Check.due("all after simulate()", Look.whole(x), Look.whole(Samples.rich()));
            }
        });
        Sentences.test("A long x starts as the seed.", () -> {
            RuleLists x = readingOnly();
            for (long seed : new long[] {1, 2, 3, 1L << 32, 1L << 62, -1L << 40}) {
                Check.due("simulate(" + seed + ", 7)", x.simulate(seed, 7), readingOnlyAnswer(seed, 7));
            }
        });
        Sentences.test("Each turn first replaces x by x * 6364136223846793005L + 1442695040888963407L"
                + " (with long overflow), and r = (int) (x >>> 33) is computed.", () -> {
            // From 0 the first x is 1442695040888963407: r is 167951807, the rest 15, q 10496987: the reader 3 reads.
            Check.due("simulate(0, 1)", readingOnly().simulate(0, 1), 120902);
            for (int turns = 1; turns <= 10; turns++) {
                Check.due("simulate(99, " + turns + ")", readingOnly().simulate(99, turns), readingOnlyAnswer(99, turns));
            }
            // The greatest r: all bits, so that a sign that is kept would show.
            RuleLists readers = Look.loaded("Ls99801r00r00r00r00");
            Check.due("the greatest r", readers.simulate(Seeds.seedFor(Integer.MAX_VALUE), 1), 10998);
        });
        Sentences.test("q is r / 16.", () -> {
            RuleLists x = Look.loaded("Ls00101s10001s20001s30001r00r01r02r03");
            Check.due("r is 15", x.simulate(Seeds.seedFor(15), 1), 40001);
            Check.due("r is 16 + 15", x.simulate(Seeds.seedFor(16 + 15), 1), 40100);
            Check.due("r is 32 + 15", x.simulate(Seeds.seedFor(32 + 15), 1), 40200);
            Check.due("r is 48 + 11", x.simulate(Seeds.seedFor(48 + 11), 1), 40300);
            Check.due("r is 64 + 11", x.simulate(Seeds.seedFor(64 + 11), 1), 40001);
        });
    }

    private static void simulatedTurns() {
        Sentences.test("By r % 16: 0 and 1: a list by steps, with the first number q % 100"
                + " and the step 1 + q / 128 % 20, is made.", () -> {
            made(0, 0, 3, 40000 + 0 + 1);
            made(1, 99, 3, 40000 + 99 + 100);
            made(0, 100, 3, 40000 + 0 + 1);
            made(1, 127, 3, 40000 + 27 + 28);
            made(0, 128, 3, 40000 + 28 + 30);
            made(1, 128 * 19, 3, 40000 + 32 + 52);
            made(0, 128 * 20, 3, 40000 + 60 + 61);
        });
        Sentences.test("2: a list of the list q % 12, scaled by 1 + q / 16 % 3 and 0, is made.", () -> {
            made(2, 0, 3, 40000 + 10 + 15);
            made(2, 12, 3, 40000 + 10 + 15);
            made(2, 16 + 8, 3, 40000 + 20 + 30);
            made(2, 32 + 4, 3, 40000 + 30 + 45);
            made(2, 48, 3, 40000 + 10 + 15);
            made(2, 2, 3, 40000 + 2 + 4);
            // Here q / 16 differs from a division by a little less.
            made(2, 60, 3, 40000 + 10 + 15);
        });
        Sentences.test("3: the lists q % 12 and q / 16 % 12 are joined.", () -> {
            made(3, 16 + 8, 3, 40000 + 10 + 12);
            made(3, 1, 3, 40000 + 10 + 12);
            made(3, 0, 3, 40000 + 10 + 15);
            made(3, 192 + 1, 3, 40000 + 10 + 12);
            made(3, 204, 3, 40000 + 10 + 15);
        });
        Sentences.test("4: shared.", () -> {
            made(4, 16 + 8, 3, 40000 + 20 + 40);
            made(4, 1, 3, 40000 + 20 + 40);
            made(4, 0, 3, 40000 + 10 + 15);
        });
        Sentences.test("5: the first one without the other one.", () -> {
            made(5, 16 + 8, 3, 40000 + 10 + 15);
            made(5, 1, 3, 40000 + 12 + 16);
            made(5, 0, 3, 40000);
        });
        Sentences.test("6: the list q % 12 is sieved.", () -> {
            made(6, 2, 3, 40000 + 2);
            made(6, 14, 3, 40000 + 2);
            made(6, 0, 3, 40000 + 10 + 15);
        });
        Sentences.test("7: it is thinned by 1 + q / 16 % 4.", () -> {
            made(7, 0, 3, 40000 + 10 + 15);
            made(7, 16 + 8, 3, 40000 + 15 + 25);
            made(7, 32 + 4, 3, 40000 + 20 + 35);
            made(7, 48, 3, 40000 + 25 + 45);
            made(7, 64 + 8, 3, 40000 + 10 + 15);
            made(7, 60, 3, 40000 + 25 + 45);
        });
        Sentences.test("8: it is added up.", () -> {
            made(8, 0, 3, 40000 + 10 + 25);
            made(8, 13, 3, 40000 + 12 + 28);
        });
        Sentences.test("9: a reader of the list q % 12 begins.", () -> {
            made(9, 0, 1, 30000 + 10 + 15);
            made(9, 13, 0, 30000 + 12 + 16);
        });
        Sentences.test("10: the last list is dropped.", () -> {
            made(10, 0, 0, 20000 + 10 + 15);
            made(10, 0, 2, 20000);
        });
        Sentences.test("Otherwise the reader q % 4 reads.", () -> {
            RuleLists x = Look.loaded("Ls00101s10001s20001s30001r00r01r02r03");
            int[] due = {40001, 40100, 40200, 40300};
            for (int kind = 11; kind <= 15; kind++) {
                for (int q = 0; q < 8; q++) {
                    Check.due("a turn " + kind + " with " + q, turn(x, kind, q), due[q % 4]);
                }
            }
        });
    }

    private static void simulateAnswers() {
        Sentences.test("What would throw an exception is skipped.", () -> {
            for (int kind = 0; kind <= 8; kind++) {
                Check.due("a turn " + kind + ", no room", turn(readingOnly(), kind, 0), 120000);
            }
            for (int kind = 2; kind <= 15; kind++) {
                Check.due("a turn " + kind + " of a new object", turn(new RuleLists(), kind, 0), 0);
            }
            for (int kind = 2; kind <= 9; kind++) {
                Check.due("a turn " + kind + ", no such list", turn(Look.loaded("Ls00101"), kind, 1), 10000);
            }
            for (int kind = 3; kind <= 5; kind++) {
                Check.due("a turn " + kind + ", no such other list", turn(Look.loaded("Ls00101"), kind, 16 + 8), 10000);
            }
            Check.due("a 5th reader", turn(readingOnly(), 9, 0), 120000);
            Check.due("a list that is read", turn(Look.loaded("Ls00101r00"), 10, 0), 10000);
            Check.due("a reader at the end", turn(Look.loaded("Ls99901r00n0"), 11, 0), 10000);
            Check.due("no such reader", turn(Look.loaded("Ls99901r00"), 11, 1), 10000);
        });
        Sentences.test("seed: any long", () -> {
            for (long seed : new long[] {0, -1, 1, Long.MIN_VALUE, Long.MAX_VALUE, Integer.MIN_VALUE, 1L << 31}) {
                Check.due("simulate(" + seed + ", 60)", readingOnly().simulate(seed, 60), readingOnlyAnswer(seed, 60));
            }
        });
        Sentences.test("turns: 1 to 60", () -> {
            for (int turns = 1; turns <= 60; turns++) {
                Check.due("simulate(5, " + turns + ")", readingOnly().simulate(5, turns), readingOnlyAnswer(5, turns));
            }
        });
        Sentences.test("Returns 10000 times the lists at the end, and the members that are read in these turns,"
                + " added up, modulo 10000, together.", () -> {
            Check.due("nothing at all", turn(new RuleLists(), 10, 0), 0);
            Check.due("one list, no member", turn(new RuleLists(), 0, 0), 10000);
            Check.due("the last list is gone", turn(Look.loaded("Ls00101"), 10, 0), 0);
            // What was read ahead of these turns does not count.
            Check.due("only 999 is read in it", turn(Look.loaded("Ls99801r00n0"), 11, 0), 10999);
            boolean[] beyond = new boolean[6];
            for (long seed = 0; seed < 200; seed++) {
                Check.due("simulate(" + seed + ", 60)", readingOnly().simulate(seed, 60), readingOnlyAnswer(seed, 60));
                beyond[Math.min(5, readingOnlySum(seed, 60) / 10000)] = true;
            }
            Check.due("more than 9999, and more than 19999 are read", beyond[1] && beyond[2], true);
        });
        Sentences.test("Throws IllegalArgumentException if turns is out of range",
                () -> Refusals.outOfRange(1, 60, (x, turns) -> x.simulate(1, turns)));
    }

    private static int turn(RuleLists x, int kind, int q) {
        return x.simulate(Seeds.seedFor(q * 16 + kind), 1);
    }

    /** The turn, and then three more, in which a reader of this list begins and reads twice. */
    private static void made(int kind, int q, int list, int want) {
        // 0: 10, 15, 20 ..; 1: 12, 16, 20 ..; 2: 2, 4, 6 ..; where the last one is dropped, none may read it.
        RuleLists x = Look.loaded("Ls01005s01204s00202");
        Check.due("turns " + kind + " with " + q, x.simulate(Seeds.seedForReading(q * 16 + kind, list), 4), want);
    }

    /** 12 lists that begin with 900, 901 .., and 4 readers, of which one reads the last list: only reading is left. */
    private static RuleLists readingOnly() {
        RuleLists x = new RuleLists();
        for (int list = 0; list < 12; list++) {
            x.makeSteps(900 + list, 1);
        }
        x.beginReading(11);
        x.beginReading(0);
        x.beginReading(1);
        x.beginReading(2);
        return x;
    }

    private static int readingOnlyAnswer(long seed, int turns) {
        return 120000 + readingOnlySum(seed, turns) % 10000;
    }

    /** In whole numbers without a bound, of which the last 64 bits are kept: no overflow of long is used. */
    private static int readingOnlySum(long seed, int turns) {
        int[] next = {911, 900, 901, 902};
        BigInteger bound = BigInteger.ONE.shiftLeft(64);
        BigInteger x = BigInteger.valueOf(seed).mod(bound);
        int sum = 0;
        for (int turn = 0; turn < turns; turn++) {
            x = x.multiply(new BigInteger("6364136223846793005")).add(new BigInteger("1442695040888963407")).mod(bound);
            int r = x.shiftRight(33).intValueExact();
            if (r % 16 > 10) {
                sum += next[r / 16 % 4]++;
            }
        }
        return sum;
    }

    private static void save() {
        Sentences.of("Promise 43: save");
        Sentences.test("Saves the present state in a slot.", () -> {
            RuleLists x = Samples.rich();
            String saved = Look.state(x);
            x.save(0);
            x.read(0);
            x.makeSteps(1, 1);
            x.stopReading(1);
            x.restore(0);
            Check.due("the state", Look.state(x), saved);
            RuleLists empty = new RuleLists();
            empty.save(1);
            empty.makeSteps(1, 1);
            empty.restore(1);
            Check.due("the state of a new object", Look.state(empty), Look.state(new RuleLists()));
            RuleLists full = Samples.full();
            String all = Look.state(full);
            full.save(1);
            full.undo();
            full.undo();
            full.restore(1);
            Check.due("the state of a full object", Look.state(full), all);
        });
        Sentences.test("slot: 0 or 1", () -> {
            RuleLists x = new RuleLists();
            x.makeSteps(1, 1);
            x.save(0);
            x.makeSteps(2, 2);
            x.save(1);
            x.makeSteps(3, 3);
            Check.due("restore(0)", x.restore(0), 1);
            Check.due("restore(1)", x.restore(1), 2);
            x.save(0);
            Check.due("restore(0) of what is saved over it", x.restore(0), 2);
        });
        Sentences.test("Returns the number of lists.", () -> {
            Check.due("save(0) of a new object", new RuleLists().save(0), 0);
            Check.due("save(1) of one list", Look.loaded("Ls00101").save(1), 1);
            Check.due("save(0) of a full object", Samples.full().save(0), 12);
        });
        Sentences.test("Throws IndexOutOfBoundsException if there is no such slot",
                () -> noSuchSlot((x, slot) -> x.save(slot)));
    }

    private static void restore() {
        Sentences.of("Promise 44: restore");
        Sentences.test("Replaces the state by the one that is saved in a slot, and forgets all remembered states.", () -> {
            RuleLists x = Samples.full();
            String present = Look.state(x);
            x.save(0);
            x.stopReading(3);
            x.dropLast();
            x.restore(0);
            Check.due("the state", Look.state(x), present);
            Check.due("undo()", Check.nameOfThrown(x::undo), IllegalStateException.class.getName());
            x.read(0);
            Check.due("undo() of the first action after restore()", x.undo(), 0);
            Check.due("the state", Look.state(x), present);
        });
        Sentences.test("The slot keeps it.", () -> {
            RuleLists x = Samples.full();
            x.restore(0);
            String saved = Look.state(x);
            x.read(0);
            x.stopReading(1);
            x.restore(1);
            x.restore(0);
            Check.due("the state, restored again", Look.state(x), saved);
            x.skip(3, 1);
            x.undo();
            x.restore(0);
            Check.due("the state, restored once more", Look.state(x), saved);
        });
        Sentences.test("slot: 0 or 1", () -> {
            RuleLists x = Look.loaded("Ls00101");
            x.save(1);
            x.makeSteps(2, 2);
            x.save(0);
            Check.due("restore(1)", x.restore(1), 1);
            Check.due("restore(0)", x.restore(0), 2);
        });
        Sentences.test("Returns the number of lists then.", () -> {
            RuleLists x = Samples.full();
            x.stopReading(3);
            x.dropLast();
            Check.due("restore(1) of 12 lists", x.restore(1), 12);
            RuleLists empty = new RuleLists();
            empty.save(0);
            empty.makeSteps(1, 1);
            Check.due("restore(0) of none", empty.restore(0), 0);
        });
        Sentences.test("Throws IndexOutOfBoundsException if there is no such slot",
                () -> noSuchSlot((x, slot) -> x.restore(slot)));
        Sentences.test("Throws IllegalStateException if nothing was saved in it since the latest load", () -> {
            for (int slot = 0; slot < 2; slot++) {
                int number = slot;
                Refusals.notNow(RuleLists::new, x -> x.restore(number));
                Refusals.notNow(Samples::eleven, x -> x.restore(number));
                Refusals.notNow(() -> savedOnly(1 - number), x -> x.restore(number));
                Refusals.notNow(RestSentences::loadedAfterSave, x -> x.restore(number));
                RuleLists again = loadedAfterSave();
                again.save(number);
                Check.due("restore() of what was saved after load()", again.restore(number), 1);
            }
            RuleLists refused = Look.loaded("Ls00101");
            refused.save(0);
            refused.append('L');
            Check.nameOfThrown(refused::load);
            Check.due("restore(0) after a load() that was refused", refused.restore(0), 1);
        });
    }

    private static void noSuchSlot(Refusals.With call) {
        for (int slot : new int[] {Integer.MIN_VALUE, -1, 2, 3, Integer.MAX_VALUE}) {
            Refusals.noSuch(RuleLists::new, x -> call.call(x, slot));
            Refusals.noSuch(Samples::full, x -> call.call(x, slot));
        }
    }

    private static RuleLists savedOnly(int slot) {
        RuleLists x = Look.loaded("Ls00101");
        x.save(slot);
        return x;
    }

    private static RuleLists loadedAfterSave() {
        RuleLists x = Look.loaded("Ls00101");
        x.save(0);
        x.save(1);
        x.load();
        return x;
    }
}
