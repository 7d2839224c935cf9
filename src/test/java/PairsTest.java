/** Promises 36 to 38: the pairs of places by corners, in both ways and back. */
public final class PairsTest {
    public static void main(String[] args) {
        allPairs();
        someKnownPairs();
        wrongInputs();
        Check.end();
    }

    /** Walks along all corners and compares each pair with the two ways; counts only the differences. */
    private static void allPairs() {
        RuleLists x = new RuleLists();
        int pair = 0;
        int walkedWrong = 0;
        int countedWrong = 0;
        int numberedWrong = 0;
        for (int corner = 0; pair <= 99999; corner++) {
            for (int first = 0; first <= corner && pair <= 99999; first++) {
                // An object may be used for 512 calls.
                x = pair % 100 == 0 ? new RuleLists() : x;
                walkedWrong += x.firstOfPairByWalking(pair) == first ? 0 : 1;
                countedWrong += x.firstOfPairByCounting(pair) == first ? 0 : 1;
                if (first <= 200 && corner - first <= 200) {
                    numberedWrong += x.numberOfPair(first, corner - first) == pair ? 0 : 1;
                }
                pair++;
            }
        }
        Check.due("pairs that are wrong by walking", walkedWrong, 0);
        Check.due("pairs that are wrong by counting", countedWrong, 0);
        Check.due("pairs with a wrong number", numberedWrong, 0);
    }

    private static void someKnownPairs() {
        RuleLists x = new RuleLists();
        int[][] due = {{0, 0}, {1, 0}, {2, 1}, {3, 0}, {4, 1}, {5, 2}, {6, 0}, {99680, 445}, {99681, 0}, {99999, 318}};
        for (int[] row : due) {
            Check.due("firstOfPairByWalking(" + row[0] + ")", x.firstOfPairByWalking(row[0]), row[1]);
            Check.due("firstOfPairByCounting(" + row[0] + ")", x.firstOfPairByCounting(row[0]), row[1]);
        }
        Check.due("numberOfPair(0, 0)", x.numberOfPair(0, 0), 0);
        Check.due("numberOfPair(0, 1)", x.numberOfPair(0, 1), 1);
        Check.due("numberOfPair(1, 0)", x.numberOfPair(1, 0), 2);
        Check.due("numberOfPair(200, 0)", x.numberOfPair(200, 0), 20300);
        Check.due("numberOfPair(0, 200)", x.numberOfPair(0, 200), 20100);
        Check.due("numberOfPair(200, 200)", x.numberOfPair(200, 200), 80400);
    }

    private static void wrongInputs() {
        RuleLists x = new RuleLists();
        Check.outOfRange("firstOfPairByWalking(-1)", x, () -> x.firstOfPairByWalking(-1));
        Check.outOfRange("firstOfPairByWalking(100000)", x, () -> x.firstOfPairByWalking(100000));
        Check.outOfRange("firstOfPairByCounting(-1)", x, () -> x.firstOfPairByCounting(-1));
        Check.outOfRange("firstOfPairByCounting(100000)", x, () -> x.firstOfPairByCounting(100000));
        Check.outOfRange("numberOfPair(-1, 0)", x, () -> x.numberOfPair(-1, 0));
        Check.outOfRange("numberOfPair(201, 0)", x, () -> x.numberOfPair(201, 0));
        Check.outOfRange("numberOfPair(0, -1)", x, () -> x.numberOfPair(0, -1));
        Check.outOfRange("numberOfPair(0, 201)", x, () -> x.numberOfPair(0, 201));
    }
}
