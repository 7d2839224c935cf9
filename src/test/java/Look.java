/** What an object shows without being changed, as a text. */
final class Look {
    private Look() {
    }

    static String at(RuleLists x) {
        StringBuilder out = new StringBuilder();
        out.append("error ").append(x.errorPosition());
        out.append(", drop ").append(x.whyNoDrop());
        out.append(", least ").append(x.leastNext());
        out.append(", readings ").append(x.readings());
        for (int list = 0; list < x.lists(); list++) {
            out.append("\nlist ").append(list).append(':').append(members(x, list));
        }
        for (int reader = 0; reader < x.readers(); reader++) {
            out.append("\nreader ").append(reader).append(':').append(reader(x, reader));
        }
        return out.toString();
    }

    /** All members, " 1 2 3", found by reading. */
    static String members(RuleLists x, int list) {
        StringBuilder out = new StringBuilder();
        int place = 0;
        for (int member = x.memberByReading(list, 0); member != RuleLists.NONE; member = x.memberByReading(list, place)) {
            out.append(' ').append(member);
            place++;
        }
        return out.toString();
    }

    /** Its list, how far it is, and what comes next. */
    static String reader(RuleLists x, int reader) {
        return x.listOf(reader) + " " + x.readSoFar(reader) + " " + x.nextOf(reader);
    }

    /**
     * All that the object holds: state, text, what is remembered, what is saved. The object is used up by
     * it, within the 512 calls that are promised, so two objects that were made alike are compared.
     */
    static String whole(RuleLists x) {
        StringBuilder out = new StringBuilder(state(x)).append(", error ").append(x.errorPosition());
        while (Check.nameOfThrown(x::undo).equals("nothing")) {
            out.append("\nbefore: ").append(shortly(x));
        }
        for (int slot = 0; slot < 2; slot++) {
            int number = slot;
            boolean saved = Check.nameOfThrown(() -> x.restore(number)).equals("nothing");
            out.append("\nslot: ").append(saved ? state(x) : "nothing");
        }
        boolean rules = Check.nameOfThrown(x::load).equals("nothing");
        out.append("\ntext: ").append(rules ? state(x) : "no rules");
        return out.append(", length ").append(x.clearText()).toString();
    }

    /** The state in few calls: of each list only how many members it has, the last, and the widest gap. */
    static String state(RuleLists x) {
        StringBuilder out = new StringBuilder(shortly(x));
        for (int list = 0; list < x.lists(); list++) {
            out.append(" / ").append(x.membersUpTo(list, 999)).append(' ').append(x.lastMember(list));
            out.append(' ').append(x.widestGap(list));
        }
        return out.toString();
    }

    private static String shortly(RuleLists x) {
        StringBuilder out = new StringBuilder();
        out.append(x.lists()).append(" lists, ").append(x.readings()).append(" readings, drop ").append(x.whyNoDrop());
        for (int reader = 0; reader < x.readers(); reader++) {
            out.append(", ").append(reader(x, reader));
        }
        return out.toString();
    }

    /** How many states are remembered; the object is undone to its oldest one. */
    static int undoAll(RuleLists x) {
        int undone = 0;
        while (Check.nameOfThrown(x::undo).equals("nothing")) {
            undone++;
        }
        return undone;
    }

    static void write(RuleLists x, String text) {
        for (int at = 0; at < text.length(); at++) {
            x.append(text.charAt(at));
        }
    }

    /** A new object that has carried out a text; fails loudly if the text is not rules. */
    static RuleLists loaded(String text) {
        RuleLists x = new RuleLists();
        write(x, text);
        x.load();
        return x;
    }
}
