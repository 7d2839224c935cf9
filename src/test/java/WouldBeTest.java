/** Promises 39 to 42: whyNoDrop, membersIfJoined, skipsTo, simulate. */
public final class WouldBeTest {
    public static void main(String[] args) {
        whyNoDrop();
        membersIfJoined();
        skipsTo();
        simulateOneTurn();
        simulateAndReadWhatIsMade();
        simulateManyReadings();
        simulateChangesNothing();
        Check.end();
    }

    private static void whyNoDrop() {
        RuleLists x = new RuleLists();
        Check.due("whyNoDrop() without lists", x.whyNoDrop(), 1);
        x.makeSteps(0, 1);
        Check.due("whyNoDrop()", x.whyNoDrop(), 0);
        x.beginReading(0);
        Check.due("whyNoDrop() of a list that is read", x.whyNoDrop(), 2);
        x.makeSteps(0, 1);
        Check.due("whyNoDrop() beside a list that is read", x.whyNoDrop(), 0);
        x.beginReading(0);
        x.beginReading(1);
        Check.due("whyNoDrop() of a list that the last reader reads", x.whyNoDrop(), 2);
        x.stopReading(2);
        Check.due("whyNoDrop() after it stopped", x.whyNoDrop(), 0);
    }

    private static void membersIfJoined() {
        RuleLists x = Look.loaded("Ls00002s00003s00101w0000");
        Check.due("membersIfJoined(0, 1)", x.membersIfJoined(0, 1), 667);
        Check.due("membersIfJoined(1, 0)", x.membersIfJoined(1, 0), 667);
        Check.due("membersIfJoined(0, 0)", x.membersIfJoined(0, 0), 500);
        Check.due("membersIfJoined(0, 2)", x.membersIfJoined(0, 2), 1000);
        Check.due("membersIfJoined(3, 1)", x.membersIfJoined(3, 1), 334);
        Check.due("membersIfJoined(3, 3)", x.membersIfJoined(3, 3), 0);
        Check.due("lists()", x.lists(), 4);
        Check.noSuch("membersIfJoined(4, 0)", x, () -> x.membersIfJoined(4, 0));
        Check.noSuch("membersIfJoined(0, 4)", x, () -> x.membersIfJoined(0, 4));
        Check.noSuch("membersIfJoined(-1, 0)", x, () -> x.membersIfJoined(-1, 0));
        Check.noSuch("membersIfJoined(0, -1)", x, () -> x.membersIfJoined(0, -1));
        RuleLists y = Look.loaded("Ls00001" + "j0000".repeat(11));
        Check.due("membersIfJoined() with 12 lists", y.membersIfJoined(0, 11), 1000);
    }

    private static void skipsTo() {
        RuleLists x = Look.loaded("Ls01010s00001w0000r00r01r02");
        Check.due("skipsTo(0, 0)", x.skipsTo(0, 0), 0);
        Check.due("skipsTo(0, 10)", x.skipsTo(0, 10), 0);
        Check.due("skipsTo(0, 11)", x.skipsTo(0, 11), 1);
        Check.due("skipsTo(0, 990)", x.skipsTo(0, 990), 98);
        Check.due("skipsTo(0, 991)", x.skipsTo(0, 991), RuleLists.NONE);
        Check.due("skipsTo(1, 999)", x.skipsTo(1, 999), 999);
        Check.due("skipsTo(2, 0)", x.skipsTo(2, 0), RuleLists.NONE);
        x.skip(0, 5);
        Check.due("skipsTo(0, 10), ahead of where it is", x.skipsTo(0, 10), 0);
        Check.due("skipsTo(0, 100)", x.skipsTo(0, 100), 4);
        x.skip(0, 94);
        Check.due("skipsTo(0, 0) at the end", x.skipsTo(0, 0), RuleLists.NONE);
        Check.due("readSoFar(0)", x.readSoFar(0), 99);
        Check.noSuch("skipsTo(3, 0)", x, () -> x.skipsTo(3, 0));
        Check.noSuch("skipsTo(-1, 1000)", x, () -> x.skipsTo(-1, 1000));
        Check.outOfRange("skipsTo(0, -1)", x, () -> x.skipsTo(0, -1));
        Check.outOfRange("skipsTo(0, 1000)", x, () -> x.skipsTo(0, 1000));
    }

    private static void made(int kind, int q, int list, int want) {
        // 0: 10, 15, 20 ..; 1: 12, 16, 20 ..; 2: 2, 4, 6 ..
        RuleLists x = Look.loaded("Ls01005s01204s00202");
        Check.due("turns " + kind + " with " + q, x.simulate(Seeds.seedForReading(q * 16 + kind, list), 4), want);
    }

    private static void simulateAndReadWhatIsMade() {
        made(0, 128 * 5 + 50, 3, 40000 + 90 + 96);
        made(1, 128 * 19, 3, 40000 + 32 + 52);
        made(0, 128 * 20 + 7, 3, 40000 + 67 + 68);
        made(2, 36, 3, 40000 + 30 + 45);
        made(2, 49, 3, 40000 + 12 + 16);
        made(2, 61, 3, 40000 + 12 + 16);
        made(3, 24, 3, 40000 + 10 + 12);
        made(3, 216, 3, 40000 + 10 + 12);
        made(4, 24, 3, 40000 + 20 + 40);
        made(5, 24, 3, 40000 + 10 + 15);
        made(5, 1, 3, 40000 + 12 + 16);
        made(6, 2, 3, 40000 + 2);
        made(7, 36, 3, 40000 + 20 + 35);
        made(7, 72, 3, 40000 + 10 + 15);
        made(7, 60, 3, 40000 + 25 + 45);
        made(8, 12, 3, 40000 + 10 + 25);
        made(9, 0, 1, 30000 + 10 + 15);
        made(10, 0, 0, 20000 + 10 + 15);
    }

    /** Nothing but reading can be done here, so that the test can add up the members itself. */
    private static void simulateManyReadings() {
        RuleLists x = Look.loaded("L" + "s90001".repeat(12) + "r11r00r00r00");
        boolean beyond = false;
        for (long seed = 1; seed <= 30; seed++) {
            int[] passed = new int[4];
            int sum = 0;
            long follower = seed;
            for (int turn = 0; turn < 60; turn++) {
                follower = Seeds.following(follower);
                int r = (int) (follower >>> 33);
                if (r % 16 > 10) {
                    sum += 900 + passed[r / 16 % 4]++;
                }
            }
            beyond |= sum > 9999;
            Check.due("simulate(" + seed + ", 60)", x.simulate(seed, 60), 120000 + sum % 10000);
        }
        Check.due("more than 9999 are read", beyond, true);
    }

    private static int turn(RuleLists x, int kind, int q) {
        return x.simulate(Seeds.seedFor(q * 16 + kind), 1);
    }

    private static void simulateOneTurn() {
        RuleLists x = Look.loaded("Ls99701r00r00n0n1n1");
        for (int kind = 0; kind <= 9; kind++) {
            Check.due("a turn " + kind, turn(x, kind, 0), kind == 9 ? 10000 : 20000);
        }
        Check.due("a turn that drops a list that is read", turn(x, 10, 0), 10000);
        Check.due("a turn that drops a list", turn(Look.loaded("Ls00001"), 10, 0), 0);
        for (int kind = 11; kind <= 15; kind++) {
            Check.due("a turn in which the reader 0 reads", turn(x, kind, 4), 10998);
            Check.due("a turn in which the reader 1 reads", turn(x, kind, 5), 10999);
            Check.due("a turn in which no reader reads", turn(x, kind, 6), 10000);
        }
        for (int kind = 2; kind <= 8; kind++) {
            Check.due("a turn with no such list", turn(x, kind, 1), 10000);
        }
        Check.due("a turn that makes a list of 12", turn(Look.loaded("Ls00001" + "j0000".repeat(11)), 0, 0), 120000);
        Check.due("the last list of 12", turn(Look.loaded("Ls00001" + "j0000".repeat(10)), 6, 10), 120000);
        Check.due("two lists", turn(Look.loaded("Ls00001s00001"), 3, 13), 30000);
        Check.due("no such other list", turn(Look.loaded("Ls00001s00001"), 3, 12 + 16 * 2), 20000);
    }

    private static void simulateChangesNothing() {
        RuleLists x = Look.loaded("Ls00201v00r01n0n0r00n1");
        x.read(0);
        x.save(0);
        String before = Look.state(x);
        Check.outOfRange("simulate(1, 0)", x, () -> x.simulate(1, 0));
        Check.outOfRange("simulate(1, 61)", x, () -> x.simulate(1, 61));
        Check.outOfRange("simulate(1, -1)", x, () -> x.simulate(1, -1));
        for (long seed = -40; seed < 40; seed++) {
            int once = x.simulate(seed * seed * seed * 1000003, 60);
            Check.due("simulate() again", x.simulate(seed * seed * seed * 1000003, 60), once);
        }
        Check.due("simulate(greatest, 1)", x.simulate(Long.MAX_VALUE, 1) / 10000 >= 2, true);
        Check.due("simulate(least, 60)", x.simulate(Long.MIN_VALUE, 60) / 10000 <= 12, true);
        Check.due("all after the simulations", Look.state(x), before);
        Check.due("undo()", x.undo(), 0);
        Check.due("restore(0)", x.restore(0), 2);
        Check.due("all after restore", Look.state(x), before);
    }
}
