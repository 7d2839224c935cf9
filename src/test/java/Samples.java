/** Objects that the tests begin with; each call makes a new one. */
final class Samples {
    private Samples() {
    }

    /** Two lists and two readers by a text, then a third list; states remembered, both slots saved. */
    static RuleLists rich() {
        RuleLists x = Look.loaded("Ls00207s00311r01r00n0k102");
        x.save(0);
        x.makeJoined(0, 1);
        x.read(0);
        x.save(1);
        x.skip(1, 3);
        return x;
    }

    /** 12 lists, 4 readers, 14 states remembered; the reader 1 is at the end of its list, and 2 reads an empty one. */
    static RuleLists full() {
        RuleLists x = new RuleLists();
        Look.write(x, "Ls00101d");
        x.makeSteps(0, 50);
        x.makeSteps(999, 1);
        x.makeWithout(0, 0);
        for (int list = 3; list < 12; list++) {
            x.makeSteps(list, 40 + list);
        }
        x.beginReading(0);
        x.beginReading(1);
        x.beginReading(2);
        x.beginReading(11);
        x.read(1);
        x.save(0);
        x.read(0);
        x.skip(3, 2);
        x.save(1);
        return x;
    }

    /** Has no list and no reader any more, but what they left. */
    static RuleLists dropped() {
        RuleLists x = new RuleLists();
        x.makeSteps(1, 1);
        x.beginReading(0);
        x.stopReading(0);
        x.dropLast();
        return x;
    }

    /** Eleven lists, so that there is room for one more: 0 is 900 920 940 960 980, 10 is 910 940 970. */
    static RuleLists eleven() {
        RuleLists x = new RuleLists();
        for (int list = 0; list < 11; list++) {
            x.makeSteps(900 + list, 20 + list);
        }
        return x;
    }

    /** Four readers: 0 and 3 read 10 20 30 .., 1 reads 998 999, 2 an empty list; there are 4 lists. */
    static RuleLists four() {
        RuleLists x = new RuleLists();
        x.makeSteps(10, 10);
        x.makeSteps(998, 1);
        x.makeWithout(1, 1);
        x.makeSteps(5, 5);
        x.beginReading(0);
        x.beginReading(1);
        x.beginReading(2);
        x.beginReading(0);
        return x;
    }
}
