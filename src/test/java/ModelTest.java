/** Compares RuleLists with the plain model over many runs of mixed calls (all promises). */
public final class ModelTest {
    private static final int RUNS = 3000;
    private static final int CALLS = 512;

    private static final String[] MAKERS = {
        "makeSteps", "makeScaled", "makeJoined", "makeShared", "makeWithout", "makeSieved", "makeThinned", "makeAddedUp",
    };
    private static final String[] READER_ACTIONS = {"read", "read", "read", "skip", "skip", "goBack", "stopReading"};
    private static final String[] REST = {"dropLast", "beginReading", "undo", "undo", "save", "restore", "simulate"};
    private static final String[] LOOKS = {
        "lists", "isMember", "memberByReading", "memberByTesting", "placeOf", "membersUpTo", "lastMember", "firstShared",
        "widestGap", "readers", "listOf", "readSoFar", "nextOf", "readings", "leastNext", "firstOfPairByWalking",
        "firstOfPairByCounting", "numberOfPair", "whyNoDrop", "membersIfJoined", "skipsTo",
    };
    private static final String LETTERS = "sxjhwveurnkzqddrn";

    private long seed;
    private RuleLists x;
    private PlainModel model;
    private int calls;

    private ModelTest(long seed) {
        this.seed = seed;
    }

    public static void main(String[] args) {
        for (int run = 1; run <= RUNS; run++) {
            new ModelTest(run * 7919L).run();
        }
        Check.end();
    }

    private void run() {
        x = new RuleLists();
        model = new PlainModel();
        calls = 0;
        if (below(2) == 0) {
            text();
        }
        while (calls < CALLS - 130) {
            step();
        }
        for (int times = 0; times < 15; times++) {
            call("undo", 0, 0, 0);
            looks();
        }
    }

    private void step() {
        int which = below(40);
        if (which < 4) {
            // Few drops would soon leave no room for a list.
            make();
        } else if (which < 18) {
            String name = pick(READER_ACTIONS);
            call(name, reader(), name.equals("skip") ? within(1, 99) : 0, 0);
        } else if (which < 24) {
            rest();
        } else if (which == 24 && below(4) == 0 && calls < CALLS - 260) {
            text();
        } else {
            look(pick(LOOKS));
        }
    }

    private void make() {
        String name = pick(MAKERS);
        switch (name) {
            case "makeSteps":
                call(name, below(2) == 0 ? below(12) : within(0, 999), below(2) == 0 ? 1 + below(5) : within(1, 99), 0);
                break;
            case "makeScaled":
                call(name, list(), within(1, 9), within(0, 99));
                break;
            case "makeThinned":
                call(name, list(), within(1, 9), 0);
                break;
            default:
                call(name, list(), name.equals("makeSieved") || name.equals("makeAddedUp") ? 0 : list(), 0);
                break;
        }
    }

    private void rest() {
        String name = pick(REST);
        switch (name) {
            case "beginReading":
                call(name, list(), 0, 0);
                break;
            case "save":
            case "restore":
                call(name, within(0, 1), 0, 0);
                break;
            case "simulate":
                call(name, below(1 << 30) * 1000003L - below(1 << 30), within(1, 60), 0);
                break;
            default:
                call(name, 0, 0, 0);
                break;
        }
    }

    private void looks() {
        for (String name : new String[] {"lists", "readers", "readings", "whyNoDrop", "leastNext"}) {
            call(name, 0, 0, 0);
        }
        call("membersUpTo", list(), 999, 0);
        call("nextOf", reader(), 0, 0);
    }

    private void look(String name) {
        switch (name) {
            case "isMember":
            case "placeOf":
            case "membersUpTo":
                call(name, list(), within(0, 999), 0);
                break;
            case "memberByReading":
            case "memberByTesting":
                call(name, list(), below(3) == 0 ? within(0, 1000) : within(0, 20), 0);
                break;
            case "lastMember":
            case "widestGap":
                call(name, list(), 0, 0);
                break;
            case "firstShared":
            case "membersIfJoined":
                call(name, list(), list(), 0);
                break;
            case "listOf":
            case "readSoFar":
            case "nextOf":
                call(name, reader(), 0, 0);
                break;
            case "skipsTo":
                call(name, reader(), within(0, 999), 0);
                break;
            case "numberOfPair":
                call(name, within(0, 200), within(0, 200), 0);
                break;
            default:
                call(name, name.startsWith("firstOfPair") ? within(0, 99999) : 0, 0, 0);
                break;
        }
    }

    private void text() {
        call("clearText", 0, 0, 0);
        StringBuilder text = new StringBuilder("Ls00201");
        int length = below(122);
        while (text.length() < length) {
            text.append(command());
        }
        if (below(4) == 0) {
            text.setCharAt(below(text.length()), (char) (below(2) == 0 ? '0' + below(10) : below(256)));
        }
        for (int at = 0; at < text.length(); at++) {
            call("append", text.charAt(at), 0, 0);
        }
        call("errorPosition", 0, 0, 0);
        call("load", 0, 0, 0);
    }

    private String command() {
        char letter = LETTERS.charAt(below(LETTERS.length()));
        switch (letter) {
            case 's': return letter + digits(3, below(1000)) + digits(2, 1 + below(99));
            case 'x': return letter + listDigits() + (1 + below(9)) + digits(2, below(100));
            case 'j':
            case 'h':
            case 'w': return letter + listDigits() + listDigits();
            case 'v':
            case 'u':
            case 'r': return letter + listDigits();
            case 'e': return letter + listDigits() + (1 + below(9));
            case 'k': return letter + digits(1, below(4)) + digits(2, 1 + below(99));
            case 'd': return "d";
            default: return letter + digits(1, below(4));
        }
    }

    private String listDigits() {
        return digits(2, below(below(6) == 0 ? 12 : 3));
    }

    private static String digits(int count, int number) {
        StringBuilder out = new StringBuilder().append(number);
        while (out.length() < count) {
            out.insert(0, '0');
        }
        return out.toString();
    }

    private int list() {
        return below(20) == 0 ? below(15) - 1 : below(Math.max(1, model.lists()));
    }

    private int reader() {
        return below(20) == 0 ? below(7) - 1 : below(Math.max(1, model.readers()));
    }

    /** Mostly within, sometimes just beyond, seldom far beyond. */
    private int within(int least, int greatest) {
        switch (below(30)) {
            case 0: return least - 1;
            case 1: return greatest + 1;
            case 2: return least;
            case 3: return greatest;
            case 4: return below(4) == 0 ? Integer.MIN_VALUE + below(3) : greatest;
            case 5: return below(4) == 0 ? Integer.MAX_VALUE - below(3) : least;
            default: return least + below(greatest - least + 1);
        }
    }

    private String pick(String[] names) {
        return names[below(names.length)];
    }

    private int below(int bound) {
        seed = seed * 6364136223846793005L + 1442695040888963407L;
        return (int) ((seed >>> 33) % bound);
    }

    private void call(String name, long a, int b, int c) {
        calls++;
        Check.due(name + "(" + a + ", " + b + ", " + c + ")", answerOf(false, name, a, b, c), answerOf(true, name, a, b, c));
    }

    private String answerOf(boolean due, String name, long a, int b, int c) {
        try {
            return Long.toString(due ? model.call(name, a, b, c) : answer(name, a, b, c));
        } catch (RuntimeException e) {
            return e.getClass().getName();
        }
    }

    private long answer(String name, long along, int b, int c) {
        int a = (int) along;
        switch (name) {
            case "append": return x.append(a);
            case "clearText": return x.clearText();
            case "errorPosition": return x.errorPosition();
            case "load": return x.load();
            case "makeSteps": return x.makeSteps(a, b);
            case "makeScaled": return x.makeScaled(a, b, c);
            case "makeJoined": return x.makeJoined(a, b);
            case "makeShared": return x.makeShared(a, b);
            case "makeWithout": return x.makeWithout(a, b);
            case "makeSieved": return x.makeSieved(a);
            case "makeThinned": return x.makeThinned(a, b);
            case "makeAddedUp": return x.makeAddedUp(a);
            case "dropLast": return x.dropLast();
            case "beginReading": return x.beginReading(a);
            case "read": return x.read(a);
            case "skip": return x.skip(a, b);
            case "goBack": return x.goBack(a);
            case "stopReading": return x.stopReading(a);
            case "undo": return x.undo();
            case "simulate": return x.simulate(along, b);
            case "save": return x.save(a);
            case "restore": return x.restore(a);
            default: return looked(name, a, b);
        }
    }

    private long looked(String name, int a, int b) {
        switch (name) {
            case "lists": return x.lists();
            case "isMember": return x.isMember(a, b) ? 1 : 0;
            case "memberByReading": return x.memberByReading(a, b);
            case "memberByTesting": return x.memberByTesting(a, b);
            case "placeOf": return x.placeOf(a, b);
            case "membersUpTo": return x.membersUpTo(a, b);
            case "lastMember": return x.lastMember(a);
            case "firstShared": return x.firstShared(a, b);
            case "widestGap": return x.widestGap(a);
            case "readers": return x.readers();
            case "listOf": return x.listOf(a);
            case "readSoFar": return x.readSoFar(a);
            case "nextOf": return x.nextOf(a);
            case "readings": return x.readings();
            case "leastNext": return x.leastNext();
            case "firstOfPairByWalking": return x.firstOfPairByWalking(a);
            case "firstOfPairByCounting": return x.firstOfPairByCounting(a);
            case "numberOfPair": return x.numberOfPair(a, b);
            case "whyNoDrop": return x.whyNoDrop();
            case "membersIfJoined": return x.membersIfJoined(a, b);
            case "skipsTo": return x.skipsTo(a, b);
            default: throw new Error("no such call: " + name);
        }
    }
}
