/**
 * Lists of numbers that are made by rules and read one by one. The document ../shared/DOC.md says
 * what each call does.
 */
public final class RuleLists {
    public static final int NONE = -1;

    private static final int MOST_LISTS = 12;
    private static final int MOST_READERS = 4;
    private static final int MOST_SIGNS = 120;
    private static final int MOST_REMEMBERED = 14;
    private static final int SLOTS = 2;

    private static final int GREATEST = 999;
    private static final int NUMBERS = 1000;
    private static final int MOST_STEP = 99;
    private static final int MOST_FACTOR = 9;
    private static final int MOST_PLUS = 99;
    private static final int MOST_EVERY = 9;
    private static final int MOST_SKIPS = 99;
    private static final int MOST_TURNS = 60;
    private static final int LAST_PAIR = 99999;
    private static final int LAST_PLACE = 200;
    // The corner 447 begins with the pair 100128, so every pair that is asked for lies ahead of it.
    private static final int CORNERS = 447;
    private static final int CORNER_BITS = 9;

    // The kinds of actions; each is the letter of its command in a text.
    private static final int STEPS = 's';
    private static final int SCALED = 'x';
    private static final int JOINED = 'j';
    private static final int SHARED = 'h';
    private static final int WITHOUT = 'w';
    private static final int SIEVED = 'v';
    private static final int THINNED = 'e';
    private static final int ADDED_UP = 'u';
    private static final int DROP = 'd';
    private static final int BEGIN = 'r';
    private static final int READ = 'n';
    private static final int SKIP = 'k';
    private static final int BACK = 'z';
    private static final int STOP = 'q';

    // What stands against an action.
    private static final int NOTHING = 0;
    private static final int NO_SUCH = 1;
    private static final int OUT_OF_RANGE = 2;
    private static final int NOT_NOW = 3;

    private final Text text = new Text();
    private final State state = new State();
    private final History history = new History();
    private final State[] slots = new State[SLOTS];
    private final boolean[] saved = new boolean[SLOTS];
    private final State trial = new State();

    public RuleLists() {
        for (int slot = 0; slot < SLOTS; slot++) {
            slots[slot] = new State();
        }
    }

    // ---- text

    public int append(int c) throws IllegalArgumentException, IllegalStateException {
        checkRange(c, 0, 255);
        if (text.length >= MOST_SIGNS) {
            throw new IllegalStateException("the text is full");
        }
        return text.add((char) c);
    }

    public int clearText() {
        int before = text.length;
        text.length = 0;
        return before;
    }

    public int errorPosition() {
        return text.findError();
    }

    public int load() throws IllegalStateException {
        if (text.findError() != NONE) {
            throw new IllegalStateException("the text is not rules");
        }
        state.empty();
        history.forget();
        for (int slot = 0; slot < SLOTS; slot++) {
            saved[slot] = false;
        }
        return carryOutText();
    }

    // ---- actions: lists

    public int makeSteps(int first, int step) throws IllegalArgumentException, IllegalStateException {
        return act(STEPS, first, step, 0);
    }

    public int makeScaled(int list, int factor, int plus)
            throws IndexOutOfBoundsException, IllegalArgumentException, IllegalStateException {
        return act(SCALED, list, factor, plus);
    }

    public int makeJoined(int one, int other) throws IndexOutOfBoundsException, IllegalStateException {
        return act(JOINED, one, other, 0);
    }

    public int makeShared(int one, int other) throws IndexOutOfBoundsException, IllegalStateException {
        return act(SHARED, one, other, 0);
    }

    public int makeWithout(int one, int other) throws IndexOutOfBoundsException, IllegalStateException {
        return act(WITHOUT, one, other, 0);
    }

    public int makeSieved(int list) throws IndexOutOfBoundsException, IllegalStateException {
        return act(SIEVED, list, 0, 0);
    }

    public int makeThinned(int list, int every)
            throws IndexOutOfBoundsException, IllegalArgumentException, IllegalStateException {
        return act(THINNED, list, every, 0);
    }

    public int makeAddedUp(int list) throws IndexOutOfBoundsException, IllegalStateException {
        return act(ADDED_UP, list, 0, 0);
    }

    public int dropLast() throws IllegalStateException {
        return act(DROP, 0, 0, 0);
    }

    // ---- actions: readers

    public int beginReading(int list) throws IndexOutOfBoundsException, IllegalStateException {
        return act(BEGIN, list, 0, 0);
    }

    public int read(int reader) throws IndexOutOfBoundsException, IllegalStateException {
        return act(READ, reader, 0, 0);
    }

    public int skip(int reader, int members) throws IndexOutOfBoundsException, IllegalArgumentException {
        return act(SKIP, reader, members, 0);
    }

    public int goBack(int reader) throws IndexOutOfBoundsException {
        return act(BACK, reader, 0, 0);
    }

    public int stopReading(int reader) throws IndexOutOfBoundsException {
        return act(STOP, reader, 0, 0);
    }

    public int undo() throws IllegalStateException {
        if (history.count == 0) {
            throw new IllegalStateException("no state is remembered");
        }
        history.takeBack(state);
        return history.count;
    }

    // ---- lists and their members

    public int lists() {
        return state.lists.count;
    }

    public boolean isMember(int list, int number) throws IndexOutOfBoundsException, IllegalArgumentException {
        checkList(list);
        checkRange(number, 0, GREATEST);
        return state.lists.has(list, number);
    }

    public int memberByReading(int list, int place) throws IndexOutOfBoundsException {
        checkList(list);
        checkPlace(place);
        return state.lists.memberReadAt(list, place);
    }

    public int memberByTesting(int list, int place) throws IndexOutOfBoundsException {
        checkList(list);
        checkPlace(place);
        return state.lists.memberTestedAt(list, place);
    }

    public int placeOf(int list, int number) throws IndexOutOfBoundsException, IllegalArgumentException {
        checkList(list);
        checkRange(number, 0, GREATEST);
        return state.lists.has(list, number) ? state.lists.countUpTo(list, number) - 1 : NONE;
    }

    public int membersUpTo(int list, int number) throws IndexOutOfBoundsException, IllegalArgumentException {
        checkList(list);
        checkRange(number, 0, GREATEST);
        return state.lists.countUpTo(list, number);
    }

    public int lastMember(int list) throws IndexOutOfBoundsException {
        checkList(list);
        return state.lists.greatestOf(list);
    }

    public int firstShared(int one, int other) throws IndexOutOfBoundsException {
        checkList(one);
        checkList(other);
        return state.lists.leastOfBoth(one, other);
    }

    public int widestGap(int list) throws IndexOutOfBoundsException {
        checkList(list);
        return state.lists.greatestGap(list);
    }

    // ---- readers

    public int readers() {
        return state.readers.count;
    }

    public int listOf(int reader) throws IndexOutOfBoundsException {
        checkReader(reader);
        return state.readers.list[reader];
    }

    public int readSoFar(int reader) throws IndexOutOfBoundsException {
        checkReader(reader);
        return state.readers.passed[reader];
    }

    public int nextOf(int reader) throws IndexOutOfBoundsException {
        checkReader(reader);
        return state.upcoming(reader);
    }

    public int readings() {
        return state.readers.readings;
    }

    public int leastNext() {
        return state.readerOfLeast();
    }

    // ---- pairs by corners

    public int firstOfPairByWalking(int pair) throws IllegalArgumentException {
        checkRange(pair, 0, LAST_PAIR);
        int rest = pair;
        for (int corner = 0; corner < CORNERS && rest > corner; corner++) {
            rest -= corner + 1;
        }
        return rest;
    }

    public int firstOfPairByCounting(int pair) throws IllegalArgumentException {
        checkRange(pair, 0, LAST_PAIR);
        int corner = 0;
        for (int bit = CORNER_BITS - 1; bit >= 0; bit--) {
            int farther = corner + (1 << bit);
            if (pairsAhead(farther) <= pair) {
                corner = farther;
            }
        }
        return pair - pairsAhead(corner);
    }

    public int numberOfPair(int first, int second) throws IllegalArgumentException {
        checkRange(first, 0, LAST_PLACE);
        checkRange(second, 0, LAST_PLACE);
        return pairsAhead(first + second) + first;
    }

    // ---- what would be; these methods change nothing

    public int whyNoDrop() {
        return state.reasonAgainstDrop();
    }

    public int membersIfJoined(int one, int other) throws IndexOutOfBoundsException {
        checkList(one);
        checkList(other);
        return state.lists.countOfEither(one, other);
    }

    public int skipsTo(int reader, int number) throws IndexOutOfBoundsException, IllegalArgumentException {
        checkReader(reader);
        checkRange(number, 0, GREATEST);
        return state.skipsUntil(reader, number);
    }

    public int simulate(long seed, int turns) throws IllegalArgumentException {
        checkRange(turns, 1, MOST_TURNS);
        trial.copyFrom(state);
        long x = seed;
        int sum = 0;
        for (int turn = 0; turn < turns; turn++) {
            x = x * 6364136223846793005L + 1442695040888963407L;
            sum += takeTurn((int) (x >>> 33));
        }
        return 10000 * trial.lists.count + sum % 10000;
    }

    // ---- slots

    public int save(int slot) throws IndexOutOfBoundsException {
        checkSlot(slot);
        slots[slot].copyFrom(state);
        saved[slot] = true;
        return state.lists.count;
    }

    public int restore(int slot) throws IndexOutOfBoundsException, IllegalStateException {
        checkSlot(slot);
        if (!saved[slot]) {
            throw new IllegalStateException("nothing was saved in this slot");
        }
        state.copyFrom(slots[slot]);
        history.forget();
        return state.lists.count;
    }

    // ---- what the calls share

    private int act(int kind, int a, int b, int c) {
        refuse(state.objection(kind, a, b, c));
        history.remember(state);
        return state.carryOut(kind, a, b, c);
    }

    private int carryOutText() {
        int skipped = 0;
        text.begin();
        for (int command = 0; command < MOST_SIGNS && text.hasMore(); command++) {
            text.takeCommand();
            if (state.attempt(text.kind, text.numbers[0], text.numbers[1], text.numbers[2]) == NONE) {
                skipped++;
            }
        }
        return skipped;
    }

    /** One turn of the simulation; answers the member that is read in it, or 0. */
    private int takeTurn(int r) {
        int q = r / 16;
        int one = q % 12;
        int other = q / 16 % 12;
        switch (r % 16) {
            case 0:
            case 1:
                trial.attempt(STEPS, q % 100, 1 + q / 128 % 20, 0);
                return 0;
            case 2:
                trial.attempt(SCALED, one, 1 + q / 16 % 3, 0);
                return 0;
            case 3:
                trial.attempt(JOINED, one, other, 0);
                return 0;
            case 4:
                trial.attempt(SHARED, one, other, 0);
                return 0;
            case 5:
                trial.attempt(WITHOUT, one, other, 0);
                return 0;
            case 6:
                trial.attempt(SIEVED, one, 0, 0);
                return 0;
            case 7:
                trial.attempt(THINNED, one, 1 + q / 16 % 4, 0);
                return 0;
            case 8:
                trial.attempt(ADDED_UP, one, 0, 0);
                return 0;
            case 9:
                trial.attempt(BEGIN, one, 0, 0);
                return 0;
            case 10:
                trial.attempt(DROP, 0, 0, 0);
                return 0;
            default:
                // A turn that is skipped answers NONE and reads nothing.
                return Math.max(0, trial.attempt(READ, q % 4, 0, 0));
        }
    }

    private static int pairsAhead(int corner) {
        return corner * (corner + 1) / 2;
    }

    private static boolean isWithin(int value, int least, int greatest) {
        return value >= least && value <= greatest;
    }

    private static void refuse(int objection) {
        if (objection == NO_SUCH) {
            throw new IndexOutOfBoundsException("there is no such list or reader");
        }
        if (objection == OUT_OF_RANGE) {
            throw new IllegalArgumentException("a number is out of range");
        }
        if (objection == NOT_NOW) {
            throw new IllegalStateException("this cannot be done now");
        }
    }

    private static void checkRange(int value, int least, int greatest) {
        if (!isWithin(value, least, greatest)) {
            throw new IllegalArgumentException("a number is out of range");
        }
    }

    private void checkList(int list) {
        if (!state.lists.isList(list)) {
            throw new IndexOutOfBoundsException("there is no such list");
        }
    }

    private void checkReader(int reader) {
        if (!state.readers.isReader(reader)) {
            throw new IndexOutOfBoundsException("there is no such reader");
        }
    }

    private static void checkPlace(int place) {
        if (place < 0) {
            throw new IndexOutOfBoundsException("there is no such place");
        }
    }

    private static void checkSlot(int slot) {
        if (!isWithin(slot, 0, SLOTS - 1)) {
            throw new IndexOutOfBoundsException("there is no such slot");
        }
    }

    /**
     * The lists. Each one's members are the bits of a row of words; all rows lie in one array, so
     * that a state is copied at once and no list costs an object.
     */
    private static final class Lists {
        private static final int WORDS = 16;

        private final long[] words = new long[MOST_LISTS * WORDS];
        int count;

        void copyFrom(Lists other) {
            count = other.count;
            System.arraycopy(other.words, 0, words, 0, words.length);
        }

        boolean isList(int list) {
            return list >= 0 && list < count;
        }

        boolean hasRoom() {
            return count < MOST_LISTS;
        }

        boolean has(int list, int number) {
            return isWithin(number, 0, GREATEST) && (words[wordOf(list, number)] & 1L << number) != 0;
        }

        /** The least member that is not below a number. */
        int nextFrom(int list, int number) {
            if (!isWithin(number, 0, GREATEST)) {
                return NONE;
            }
            long wanted = -1L << number;
            for (int word = number / 64; word < WORDS; word++) {
                long bits = words[list * WORDS + word] & wanted;
                if (bits != 0) {
                    return word * 64 + lowestBit(bits);
                }
                wanted = -1L;
            }
            return NONE;
        }

        int memberReadAt(int list, int place) {
            int member = nextFrom(list, 0);
            for (int here = 0; here < NUMBERS && member != NONE; here++) {
                if (here == place) {
                    return member;
                }
                member = nextFrom(list, member + 1);
            }
            return NONE;
        }

        int memberTestedAt(int list, int place) {
            int found = 0;
            for (int number = 0; number <= GREATEST; number++) {
                if (has(list, number)) {
                    if (found == place) {
                        return number;
                    }
                    found++;
                }
            }
            return NONE;
        }

        int countUpTo(int list, int number) {
            int last = Math.max(0, Math.min(number, GREATEST));
            int members = 0;
            for (int word = 0; word < last / 64; word++) {
                members += Long.bitCount(words[list * WORDS + word]);
            }
            long upToLast = -1L >>> 63 - last % 64;
            return members + Long.bitCount(words[wordOf(list, last)] & upToLast);
        }

        int greatestOf(int list) {
            for (int number = GREATEST; number >= 0; number--) {
                if (has(list, number)) {
                    return number;
                }
            }
            return NONE;
        }

        int leastOfBoth(int one, int other) {
            for (int word = 0; word < WORDS; word++) {
                long bits = words[one * WORDS + word] & words[other * WORDS + word];
                if (bits != 0) {
                    return word * 64 + lowestBit(bits);
                }
            }
            return NONE;
        }

        int countOfEither(int one, int other) {
            int members = 0;
            for (int word = 0; word < WORDS; word++) {
                members += Long.bitCount(words[one * WORDS + word] | words[other * WORDS + word]);
            }
            return members;
        }

        int greatestGap(int list) {
            int widest = 0;
            int member = nextFrom(list, 0);
            for (int place = 0; place < NUMBERS && member != NONE; place++) {
                int following = nextFrom(list, member + 1);
                if (following != NONE) {
                    widest = Math.max(widest, following - member);
                }
                member = following;
            }
            return widest;
        }

        int addSteps(int first, int step) {
            int made = addEmpty();
            for (int place = 0; place < NUMBERS && first + place * step <= GREATEST; place++) {
                put(made, first + place * step);
            }
            return made;
        }

        int addScaled(int list, int factor, int plus) {
            int made = addEmpty();
            int member = nextFrom(list, 0);
            for (int place = 0; place < NUMBERS && member != NONE; place++) {
                put(made, member * factor + plus);
                member = nextFrom(list, member + 1);
            }
            return made;
        }

        int addJoined(int one, int other) {
            int made = addEmpty();
            for (int word = 0; word < WORDS; word++) {
                words[made * WORDS + word] = words[one * WORDS + word] | words[other * WORDS + word];
            }
            return made;
        }

        int addShared(int one, int other) {
            int made = addEmpty();
            for (int word = 0; word < WORDS; word++) {
                words[made * WORDS + word] = words[one * WORDS + word] & words[other * WORDS + word];
            }
            return made;
        }

        int addWithout(int one, int other) {
            int made = addEmpty();
            for (int word = 0; word < WORDS; word++) {
                words[made * WORDS + word] = words[one * WORDS + word] & ~words[other * WORDS + word];
            }
            return made;
        }

        int addSieved(int list) {
            int made = addJoined(list, list);
            // What is still there when its turn comes is kept; 0 and 1 strike out nothing.
            int kept = nextFrom(made, 2);
            for (int place = 0; place < NUMBERS && kept != NONE; place++) {
                strikeOutMultiples(made, kept);
                kept = nextFrom(made, kept + 1);
            }
            return made;
        }

        int addThinned(int list, int every) {
            int made = addEmpty();
            int member = nextFrom(list, 0);
            int ahead = 0;
            for (int place = 0; place < NUMBERS && member != NONE; place++) {
                ahead++;
                if (ahead == every) {
                    put(made, member);
                    ahead = 0;
                }
                member = nextFrom(list, member + 1);
            }
            return made;
        }

        int addAddedUp(int list) {
            int made = addEmpty();
            int sum = 0;
            int member = nextFrom(list, 0);
            for (int place = 0; place < NUMBERS && member != NONE; place++) {
                sum += member;
                put(made, sum);
                member = nextFrom(list, member + 1);
            }
            return made;
        }

        /** Begins a list; the one who calls has looked whether there is room. */
        private int addEmpty() {
            int made = count;
            for (int word = 0; word < WORDS; word++) {
                // A list that was dropped may have left its members here.
                words[made * WORDS + word] = 0;
            }
            count++;
            return made;
        }

        /** Numbers that are too great are left out here, for all rules. */
        private void put(int list, int number) {
            if (isWithin(number, 0, GREATEST)) {
                words[wordOf(list, number)] |= 1L << number;
            }
        }

        private void strikeOutMultiples(int list, int kept) {
            for (int times = 2; times < NUMBERS && times * kept <= GREATEST; times++) {
                words[wordOf(list, times * kept)] &= ~(1L << times * kept);
            }
        }

        private static int wordOf(int list, int number) {
            return list * WORDS + number / 64;
        }

        private static int lowestBit(long bits) {
            return Long.bitCount((bits & -bits) - 1);
        }
    }

    /** The readers, in the order in which they began. */
    private static final class Readers {
        final int[] list = new int[MOST_READERS];
        final int[] passed = new int[MOST_READERS];
        // The least number that a reader has not yet gone past, so that it need not count again.
        final int[] from = new int[MOST_READERS];
        int count;
        int readings;

        void copyFrom(Readers other) {
            count = other.count;
            readings = other.readings;
            for (int reader = 0; reader < MOST_READERS; reader++) {
                list[reader] = other.list[reader];
                passed[reader] = other.passed[reader];
                from[reader] = other.from[reader];
            }
        }

        boolean isReader(int reader) {
            return reader >= 0 && reader < count;
        }

        boolean hasRoom() {
            return count < MOST_READERS;
        }

        boolean isRead(int which) {
            for (int reader = 0; reader < count; reader++) {
                if (list[reader] == which) {
                    return true;
                }
            }
            return false;
        }

        int add(int which) {
            int made = count;
            list[made] = which;
            passed[made] = 0;
            from[made] = 0;
            count++;
            return made;
        }

        void pass(int reader, int member) {
            passed[reader]++;
            from[reader] = member + 1;
        }

        int sendBack(int reader) {
            int before = passed[reader];
            passed[reader] = 0;
            from[reader] = 0;
            return before;
        }

        int remove(int gone) {
            count--;
            for (int reader = gone; reader < count; reader++) {
                list[reader] = list[reader + 1];
                passed[reader] = passed[reader + 1];
                from[reader] = from[reader + 1];
            }
            return count;
        }
    }

    /** All that undo takes back: the lists and their readers. */
    private static final class State {
        final Lists lists = new Lists();
        final Readers readers = new Readers();

        void copyFrom(State other) {
            lists.copyFrom(other.lists);
            readers.copyFrom(other.readers);
        }

        void empty() {
            lists.count = 0;
            readers.count = 0;
            readers.readings = 0;
        }

        /** What stands against an action, of several the one that the document names first. */
        int objection(int kind, int a, int b, int c) {
            switch (kind) {
                case STEPS:
                    return first(true, isWithin(a, 0, GREATEST) && isWithin(b, 1, MOST_STEP), lists.hasRoom());
                case SCALED:
                    return first(lists.isList(a), isWithin(b, 1, MOST_FACTOR) && isWithin(c, 0, MOST_PLUS),
                            lists.hasRoom());
                case JOINED:
                case SHARED:
                case WITHOUT:
                    return first(lists.isList(a) && lists.isList(b), true, lists.hasRoom());
                case SIEVED:
                case ADDED_UP:
                    return first(lists.isList(a), true, lists.hasRoom());
                case THINNED:
                    return first(lists.isList(a), isWithin(b, 1, MOST_EVERY), lists.hasRoom());
                case DROP:
                    return first(true, true, reasonAgainstDrop() == 0);
                case BEGIN:
                    return first(lists.isList(a), true, readers.hasRoom());
                case READ:
                    return first(readers.isReader(a), true, upcoming(a) != NONE);
                case SKIP:
                    return first(readers.isReader(a), isWithin(b, 1, MOST_SKIPS), true);
                case BACK:
                case STOP:
                    return first(readers.isReader(a), true, true);
                default:
                    return NOT_NOW;
            }
        }

        /** Does what objection() has nothing against. */
        int carryOut(int kind, int a, int b, int c) {
            switch (kind) {
                case STEPS:
                    return lists.addSteps(a, b);
                case SCALED:
                    return lists.addScaled(a, b, c);
                case JOINED:
                    return lists.addJoined(a, b);
                case SHARED:
                    return lists.addShared(a, b);
                case WITHOUT:
                    return lists.addWithout(a, b);
                case SIEVED:
                    return lists.addSieved(a);
                case THINNED:
                    return lists.addThinned(a, b);
                case ADDED_UP:
                    return lists.addAddedUp(a);
                case DROP:
                    lists.count--;
                    return lists.count;
                case BEGIN:
                    return readers.add(a);
                case READ:
                    return readOne(a);
                case SKIP:
                    return skipSome(a, b);
                case BACK:
                    return readers.sendBack(a);
                case STOP:
                    return readers.remove(a);
                default:
                    return NONE;
            }
        }

        /** Answers NONE, and does nothing, if the action's method would throw. */
        int attempt(int kind, int a, int b, int c) {
            return objection(kind, a, b, c) == NOTHING ? carryOut(kind, a, b, c) : NONE;
        }

        int reasonAgainstDrop() {
            if (lists.count == 0) {
                return 1;
            }
            return readers.isRead(lists.count - 1) ? 2 : 0;
        }

        int upcoming(int reader) {
            if (!readers.isReader(reader)) {
                return NONE;
            }
            return lists.nextFrom(readers.list[reader], readers.from[reader]);
        }

        int readerOfLeast() {
            int best = NONE;
            int least = NUMBERS;
            for (int reader = 0; reader < readers.count; reader++) {
                int member = upcoming(reader);
                if (member != NONE && member < least) {
                    best = reader;
                    least = member;
                }
            }
            return best;
        }

        int skipsUntil(int reader, int number) {
            int list = readers.list[reader];
            int member = upcoming(reader);
            for (int skips = 0; skips < NUMBERS && member != NONE; skips++) {
                if (member >= number) {
                    return skips;
                }
                member = lists.nextFrom(list, member + 1);
            }
            return NONE;
        }

        private int readOne(int reader) {
            int member = lists.nextFrom(readers.list[reader], readers.from[reader]);
            readers.pass(reader, member);
            readers.readings++;
            return member;
        }

        private int skipSome(int reader, int members) {
            for (int skipped = 0; skipped < members; skipped++) {
                int member = lists.nextFrom(readers.list[reader], readers.from[reader]);
                if (member == NONE) {
                    return skipped;
                }
                readers.pass(reader, member);
            }
            return members;
        }

        private static int first(boolean such, boolean inRange, boolean now) {
            if (!such) {
                return NO_SUCH;
            }
            if (!inRange) {
                return OUT_OF_RANGE;
            }
            return now ? NOTHING : NOT_NOW;
        }
    }

    /** The remembered states, in a ring, so that the oldest one is forgotten by writing over it. */
    private static final class History {
        private final State[] states = new State[MOST_REMEMBERED];
        private int oldest;
        int count;

        History() {
            for (int index = 0; index < MOST_REMEMBERED; index++) {
                states[index] = new State();
            }
        }

        void forget() {
            count = 0;
        }

        void remember(State state) {
            states[(oldest + count) % MOST_REMEMBERED].copyFrom(state);
            if (count < MOST_REMEMBERED) {
                count++;
            } else {
                oldest = (oldest + 1) % MOST_REMEMBERED;
            }
        }

        void takeBack(State state) {
            count--;
            state.copyFrom(states[(oldest + count) % MOST_REMEMBERED]);
        }
    }

    /** The text, and how it is read from left to right, command by command. */
    private static final class Text {
        private final char[] signs = new char[MOST_SIGNS];
        int length;
        private int at;
        private int error;
        int kind;
        final int[] numbers = new int[3];

        int add(char sign) {
            signs[length] = sign;
            length++;
            return length;
        }

        int findError() {
            begin();
            for (int command = 0; command < MOST_SIGNS && hasMore(); command++) {
                takeCommand();
            }
            return error;
        }

        void begin() {
            boolean begun = length > 0 && signs[0] == 'L';
            at = begun ? 1 : 0;
            error = begun ? NONE : 0;
        }

        boolean hasMore() {
            return error == NONE && at < length;
        }

        /** Takes a letter and its numbers; the one who calls has looked whether there is more. */
        void takeCommand() {
            for (int index = 0; index < numbers.length; index++) {
                numbers[index] = 0;
            }
            kind = signs[at];
            at++;
            switch (kind) {
                case STEPS:
                    takeNumber(0, 3, 0, GREATEST);
                    takeNumber(1, 2, 1, MOST_STEP);
                    break;
                case SCALED:
                    takeList(0);
                    takeNumber(1, 1, 1, MOST_FACTOR);
                    takeNumber(2, 2, 0, MOST_PLUS);
                    break;
                case JOINED:
                case SHARED:
                case WITHOUT:
                    takeList(0);
                    takeList(1);
                    break;
                case SIEVED:
                case ADDED_UP:
                case BEGIN:
                    takeList(0);
                    break;
                case THINNED:
                    takeList(0);
                    takeNumber(1, 1, 1, MOST_EVERY);
                    break;
                case READ:
                case BACK:
                case STOP:
                    takeReader(0);
                    break;
                case SKIP:
                    takeReader(0);
                    takeNumber(1, 2, 1, MOST_SKIPS);
                    break;
                case DROP:
                    break;
                default:
                    error = at - 1;
                    break;
            }
        }

        private void takeList(int index) {
            takeNumber(index, 2, 0, MOST_LISTS - 1);
        }

        private void takeReader(int index) {
            takeNumber(index, 1, 0, MOST_READERS - 1);
        }

        /** Takes a number of so many digits, or finds the first digit that cannot lead to one in range. */
        private void takeNumber(int index, int digits, int least, int greatest) {
            int value = 0;
            int span = digits == 3 ? 1000 : digits == 2 ? 100 : 10;
            for (int taken = 0; taken < digits && error == NONE; taken++) {
                span /= 10;
                int digit = digitHere();
                int lowest = (value * 10 + digit) * span;
                if (digit == NONE || lowest > greatest || lowest + span - 1 < least) {
                    error = at;
                } else {
                    value = value * 10 + digit;
                    at++;
                }
            }
            numbers[index] = value;
        }

        private int digitHere() {
            if (at >= length || signs[at] < '0' || signs[at] > '9') {
                return NONE;
            }
            return signs[at] - '0';
        }
    }
}
