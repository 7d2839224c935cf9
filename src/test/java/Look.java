/** What an object shows, as a text. */
final class Look {
    /** More than can be remembered, so that an undo() which never refuses is found out. */
    private static final int MOST_UNDOS = 20;

    private Look() {
    }

    /** All members, " 1 2 3", found by reading. */
    static String members(RuleLists x, int list) {
        StringBuilder out = new StringBuilder();
        int place = 0;
        for (int member = x.memberByReading(list, 0); member != RuleLists.NONE; member = x.memberByReading(list, place)) {
            out.append(' ').append(member);
            place++;
        }
        return out.toString();
    }

    /** Its list, how far it is, and what comes next. */
    static String reader(RuleLists x, int reader) {
        return x.listOf(reader) + " " + x.readSoFar(reader) + " " + x.nextOf(reader);
    }

    /**
     * All that the object holds: state, text, what is remembered, what is saved. The object is used up by
     * it, within the 512 calls that are promised, so two objects that were made alike are compared.
     */
    static String whole(RuleLists x) {
        StringBuilder out = new StringBuilder(state(x));
        for (int times = 0; times < MOST_UNDOS && Check.nameOfThrown(x::undo).equals("nothing"); times++) {
            out.append("\nbefore: ").append(shortly(x));
        }
        out.append("\nerror ").append(x.errorPosition());
        for (int slot = 0; slot < 2; slot++) {
            int number = slot;
            boolean saved = Check.nameOfThrown(() -> x.restore(number)).equals("nothing");
            out.append("\nslot: ").append(saved ? state(x) : "nothing");
        }
        boolean rules = Check.nameOfThrown(x::load).equals("nothing");
        out.append("\ntext: ").append(rules ? state(x) : "no rules");
        return out.append(", length ").append(x.clearText()).toString();
    }

    /** The state in few calls: of each list only how many members it has, the last, and the widest gap. */
    static String state(RuleLists x) {
        StringBuilder out = new StringBuilder(shortly(x));
        int lists = x.lists();
        for (int list = 0; list < lists; list++) {
            out.append(" / ").append(x.membersUpTo(list, 999)).append(' ').append(x.lastMember(list));
            out.append(' ').append(x.widestGap(list));
        }
        return out.toString();
    }

    /** The state but for the lists' members, in still fewer calls. */
    static String shortly(RuleLists x) {
        StringBuilder out = new StringBuilder();
        out.append(x.lists()).append(" lists, ").append(x.readings()).append(" readings, drop ").append(x.whyNoDrop());
        int readers = x.readers();
        for (int reader = 0; reader < readers; reader++) {
            out.append(", ").append(reader(x, reader));
        }
        return out.toString();
    }

    /** How many states are remembered; the object is undone to its oldest one. */
    static int undoAll(RuleLists x) {
        int undone = 0;
        while (undone < MOST_UNDOS && Check.nameOfThrown(x::undo).equals("nothing")) {
            undone++;
        }
        return undone;
    }

    static void write(RuleLists x, String text) {
        for (int at = 0; at < text.length(); at++) {
            x.append(text.charAt(at));
        }
    }

    /** A new object that has carried out a text; fails loudly if the text is not rules. */
    static RuleLists loaded(String text) {
        RuleLists x = new RuleLists();
        write(x, text);
        x.load();
        return x;
    }
}
