/** Promises 21 to 29: the lists and their members. */
public final class MembersTest {
    // Its lists: 0 by steps 3, 66, 129 .. 948; 1 by steps of one from 0; 2 only 999; 3 empty.
    private static final String TEXT = "Ls00363s00001s99901w0000";

    public static void main(String[] args) {
        lists();
        isMember();
        membersByPlace();
        bothWaysAgree();
        placeOf();
        membersUpTo();
        lastMember();
        firstShared();
        widestGap();
        Check.end();
    }

    private static void lists() {
        RuleLists x = new RuleLists();
        Check.due("lists()", x.lists(), 0);
        x.makeSteps(1, 1);
        Check.due("lists()", x.lists(), 1);
        x.makeSteps(1, 1);
        x.makeSteps(1, 1);
        x.dropLast();
        Check.due("lists()", x.lists(), 2);
        x.undo();
        Check.due("lists()", x.lists(), 3);
    }

    private static void isMember() {
        RuleLists x = Look.loaded(TEXT);
        for (int number = 0; number <= 999; number++) {
            x = number % 250 == 0 ? Look.loaded(TEXT) : x;
            Check.due("isMember(0, " + number + ")", x.isMember(0, number), number % 63 == 3);
            if (number % 333 == 0) {
                Check.due("isMember(1, " + number + ")", x.isMember(1, number), true);
                Check.due("isMember(2, " + number + ")", x.isMember(2, number), number == 999);
                Check.due("isMember(3, " + number + ")", x.isMember(3, number), false);
            }
        }
        RuleLists y = Look.loaded(TEXT);
        Check.noSuch("isMember(4, 0)", y, () -> y.isMember(4, 0));
        Check.noSuch("isMember(-1, 1000)", y, () -> y.isMember(-1, 1000));
        Check.outOfRange("isMember(0, -1)", y, () -> y.isMember(0, -1));
        Check.outOfRange("isMember(1, 1000)", y, () -> y.isMember(1, 1000));
    }

    private static void membersByPlace() {
        RuleLists x = Look.loaded(TEXT);
        int[][] due = {
            {0, 0, 3}, {0, 1, 66}, {0, 15, 948}, {0, 16, -1}, {0, Integer.MAX_VALUE, -1}, {1, 0, 0}, {1, 64, 64},
            {1, 999, 999}, {1, 1000, -1}, {2, 0, 999}, {2, 1, -1}, {3, 0, -1}, {3, 1000, -1},
        };
        for (int[] row : due) {
            Check.due("memberByReading(" + row[0] + ", " + row[1] + ")", x.memberByReading(row[0], row[1]), row[2]);
            Check.due("memberByTesting(" + row[0] + ", " + row[1] + ")", x.memberByTesting(row[0], row[1]), row[2]);
        }
        Check.noSuch("memberByReading(4, 0)", x, () -> x.memberByReading(4, 0));
        Check.noSuch("memberByReading(-1, 0)", x, () -> x.memberByReading(-1, 0));
        Check.noSuch("memberByReading(0, -1)", x, () -> x.memberByReading(0, -1));
        Check.noSuch("memberByTesting(4, 0)", x, () -> x.memberByTesting(4, 0));
        Check.noSuch("memberByTesting(-1, 0)", x, () -> x.memberByTesting(-1, 0));
        Check.noSuch("memberByTesting(0, -1)", x, () -> x.memberByTesting(0, -1));
        Check.noSuch("memberByTesting(0, least)", x, () -> x.memberByTesting(0, Integer.MIN_VALUE));
    }

    private static void bothWaysAgree() {
        for (int list = 0; list < 8; list++) {
            RuleLists x = Look.loaded("Ls00201v00x00307j0102h0200w0301e043u01");
            for (int place = 0; place < 60; place++) {
                int member = x.memberByReading(list, place);
                Check.due("memberByTesting(" + list + ", " + place + ")", x.memberByTesting(list, place), member);
                if (member != RuleLists.NONE) {
                    Check.due("placeOf(" + list + ", " + member + ")", x.placeOf(list, member), place);
                }
            }
        }
    }

    private static void placeOf() {
        RuleLists x = Look.loaded(TEXT);
        int[][] due = {
            {0, 3, 0}, {0, 66, 1}, {0, 948, 15}, {0, 0, -1}, {0, 65, -1}, {0, 999, -1}, {1, 0, 0}, {1, 63, 63},
            {1, 64, 64}, {1, 999, 999}, {2, 999, 0}, {2, 998, -1}, {3, 0, -1}, {3, 999, -1},
        };
        for (int[] row : due) {
            Check.due("placeOf(" + row[0] + ", " + row[1] + ")", x.placeOf(row[0], row[1]), row[2]);
        }
        Check.noSuch("placeOf(4, 0)", x, () -> x.placeOf(4, 0));
        Check.noSuch("placeOf(-1, -1)", x, () -> x.placeOf(-1, -1));
        Check.outOfRange("placeOf(0, -1)", x, () -> x.placeOf(0, -1));
        Check.outOfRange("placeOf(0, 1000)", x, () -> x.placeOf(0, 1000));
    }

    private static void membersUpTo() {
        RuleLists x = Look.loaded(TEXT);
        for (int number = 0; number <= 999; number++) {
            x = number % 250 == 0 ? Look.loaded(TEXT) : x;
            Check.due("membersUpTo(1, " + number + ")", x.membersUpTo(1, number), number + 1);
        }
        int[][] due = {
            {0, 0, 0}, {0, 2, 0}, {0, 3, 1}, {0, 65, 1}, {0, 66, 2}, {0, 947, 15}, {0, 948, 16}, {0, 999, 16},
            {2, 998, 0}, {2, 999, 1}, {3, 0, 0}, {3, 999, 0},
        };
        for (int[] row : due) {
            Check.due("membersUpTo(" + row[0] + ", " + row[1] + ")", x.membersUpTo(row[0], row[1]), row[2]);
        }
        RuleLists y = Look.loaded(TEXT);
        Check.noSuch("membersUpTo(4, 0)", y, () -> y.membersUpTo(4, 0));
        Check.noSuch("membersUpTo(-1, 1000)", y, () -> y.membersUpTo(-1, 1000));
        Check.outOfRange("membersUpTo(0, -1)", y, () -> y.membersUpTo(0, -1));
        Check.outOfRange("membersUpTo(0, 1000)", y, () -> y.membersUpTo(0, 1000));
    }

    private static void lastMember() {
        RuleLists x = Look.loaded(TEXT);
        Check.due("lastMember(0)", x.lastMember(0), 948);
        Check.due("lastMember(1)", x.lastMember(1), 999);
        Check.due("lastMember(2)", x.lastMember(2), 999);
        Check.due("lastMember(3)", x.lastMember(3), RuleLists.NONE);
        RuleLists y = Look.loaded("Ls00001s00101w0001");
        Check.due("lastMember of the list 0", y.lastMember(2), 0);
        Check.noSuch("lastMember(4)", x, () -> x.lastMember(4));
        Check.noSuch("lastMember(-1)", x, () -> x.lastMember(-1));
    }

    private static void firstShared() {
        RuleLists x = Look.loaded(TEXT);
        Check.due("firstShared(0, 1)", x.firstShared(0, 1), 3);
        Check.due("firstShared(1, 2)", x.firstShared(1, 2), 999);
        Check.due("firstShared(2, 1)", x.firstShared(2, 1), 999);
        Check.due("firstShared(0, 2)", x.firstShared(0, 2), RuleLists.NONE);
        Check.due("firstShared(3, 1)", x.firstShared(3, 1), RuleLists.NONE);
        Check.due("firstShared(3, 3)", x.firstShared(3, 3), RuleLists.NONE);
        Check.due("firstShared(1, 1)", x.firstShared(1, 1), 0);
        RuleLists y = Look.loaded("Ls00297s00398");
        // 2 + 97 m = 3 + 98 n holds first for m = 97, which lies beyond 999.
        Check.due("firstShared of lists that do not meet", y.firstShared(0, 1), RuleLists.NONE);
        RuleLists z = Look.loaded("Ls00007s00513");
        Check.due("firstShared of lists that meet later", z.firstShared(0, 1), 70);
        RuleLists full = Look.loaded("Ls00002s00002s00102s00102" + "w0000".repeat(8));
        Check.due("firstShared of lists whose neighbours share", full.firstShared(1, 2), RuleLists.NONE);
        Check.due("firstShared of the last list", full.firstShared(11, 11), RuleLists.NONE);
        Check.due("firstShared beside a full list", full.firstShared(0, 2), RuleLists.NONE);
        Check.noSuch("firstShared(4, 0)", x, () -> x.firstShared(4, 0));
        Check.noSuch("firstShared(0, 4)", x, () -> x.firstShared(0, 4));
        Check.noSuch("firstShared(-1, 0)", x, () -> x.firstShared(-1, 0));
        Check.noSuch("firstShared(0, -1)", x, () -> x.firstShared(0, -1));
    }

    private static void widestGap() {
        RuleLists x = Look.loaded(TEXT);
        Check.due("widestGap(0)", x.widestGap(0), 63);
        Check.due("widestGap(1)", x.widestGap(1), 1);
        Check.due("widestGap(2)", x.widestGap(2), 0);
        Check.due("widestGap(3)", x.widestGap(3), 0);
        RuleLists y = Look.loaded("Ls00001s00101w0001s99901j0203s00201v05u05e059");
        Check.due("widestGap of 0 and 999", y.widestGap(4), 999);
        // 887 and 907 are primes with none between them.
        Check.due("widestGap of the primes", y.widestGap(6), 20);
        Check.due("widestGap, the last one", y.widestGap(7), 44);
        Check.due("widestGap(8)", y.widestGap(8), 9);
        Check.noSuch("widestGap(4)", x, () -> x.widestGap(4));
        Check.noSuch("widestGap(-1)", x, () -> x.widestGap(-1));
    }
}
