/** Promises 2 to 5: append, clearText, errorPosition, load. */
public final class TextTest {
    public static void main(String[] args) {
        append();
        clearText();
        rules();
        wrongLetters();
        wrongDigits();
        endsTooSoon();
        loadMakes();
        loadSkips();
        loadForgets();
        loadRefuses();
        Check.end();
    }

    private static void append() {
        RuleLists x = new RuleLists();
        Check.outOfRange("append(-1)", x, () -> x.append(-1));
        Check.outOfRange("append(256)", x, () -> x.append(256));
        Check.outOfRange("append(least)", x, () -> x.append(Integer.MIN_VALUE));
        Check.due("append(0)", x.append(0), 1);
        Check.due("append(255)", x.append(255), 2);
        for (int length = 3; length <= 120; length++) {
            Check.due("append", x.append('d'), length);
        }
        Check.notNow("append to 120 characters", x, () -> x.append('d'));
        Check.outOfRange("append(256) to 120 characters", x, () -> x.append(256));
        Check.due("clearText()", x.clearText(), 120);
        Check.due("append after clearText", x.append('L'), 1);
        // 256 + 'L' would be an L if only its last 8 bits were kept.
        Check.outOfRange("append(256 + L)", x, () -> x.append(256 + 'L'));
    }

    private static void clearText() {
        RuleLists x = new RuleLists();
        Look.write(x, "Ls00101");
        Check.due("clearText()", x.clearText(), 7);
        Check.due("clearText() again", x.clearText(), 0);
        Check.due("errorPosition()", x.errorPosition(), 0);
        Check.notNow("load()", x, x::load);
    }

    private static void error(String text, int want) {
        RuleLists x = new RuleLists();
        Look.write(x, text);
        Check.due("errorPosition() of " + text, x.errorPosition(), want);
    }

    private static void rules() {
        String[] texts = {
            "L", "Ls00001", "Ls99999", "Ls99910", "Lx00100", "Lx11999", "Lj0011", "Lh1100", "Lw0909", "Lv10",
            "Le001", "Le119", "Lu05", "Lr00", "Lr11", "Ln0", "Ln3", "Lk001", "Lk399", "Lk110", "Lz0", "Lz3", "Lq0",
            "Lq3", "Ld", "Lddd", "Ls00101x00200j0001h0001w0001v00e002u00r00n0k001z0q0d",
        };
        for (String text : texts) {
            error(text, RuleLists.NONE);
            for (int length = 0; length < text.length(); length++) {
                RuleLists x = new RuleLists();
                Look.write(x, text.substring(0, length));
                int error = x.errorPosition();
                Check.due("a beginning of " + text, error == RuleLists.NONE || error == length, true);
            }
        }
        RuleLists longest = new RuleLists();
        Look.write(longest, "L" + "d".repeat(119));
        Check.due("errorPosition() of the longest text", longest.errorPosition(), RuleLists.NONE);
        Check.due("load() of the longest text", longest.load(), 119);
    }

    private static void wrongLetters() {
        error("", 0);
        error("l", 0);
        error("dL", 0);
        error(" L", 0);
        error("LL", 1);
        error("L d", 1);
        error("L0", 1);
        error("LD", 1);
        error("Ldd" + (char) 228, 3);
        error("Ls00101a", 7);
        error("Lt", 1);
        error("Li00", 1);
        error("LX", 1);
    }

    private static void wrongDigits() {
        error("Ls", 2);
        error("Ls0", 3);
        error("Ls000", 5);
        error("Ls0000", 6);
        error("Ls00000", 6);
        error("Ls000010", 7);
        error("Ls00a", 4);
        error("Ls0:", 3);
        error("Ls0/", 3);
        error("Lx12", 3);
        error("Lx2", 2);
        error("Lx1", 3);
        error("Lx000", 4);
        error("Lx009", 5);
        error("Lx0099", 6);
        error("Lx009999", 7);
        error("Lj0012", 5);
        error("Lj002", 4);
        error("Lj00", 4);
        error("Lh1200", 3);
        error("Lw0x", 3);
        error("Lv9", 2);
        error("Le000", 4);
        error("Le00", 4);
        error("Lu12", 3);
        error("Lr3", 2);
        error("Ln4", 2);
        error("Ln", 2);
        error("Ln00", 3);
        error("Lk400", 2);
        error("Lk000", 4);
        error("Lk00", 4);
        error("Lk0001", 4);
        error("Lz4", 2);
        error("Lq9", 2);
        error("Lq", 2);
    }

    private static void endsTooSoon() {
        RuleLists x = new RuleLists();
        Look.write(x, "Ls12345x00678");
        x.clearText();
        // What stood there before is no part of the text.
        Look.write(x, "Ls12");
        Check.due("errorPosition() of a text that ends too soon", x.errorPosition(), 4);
        x.append('9');
        Check.due("errorPosition() one digit later", x.errorPosition(), 5);
        Check.notNow("load() of a text that ends too soon", x, x::load);
        RuleLists longest = new RuleLists();
        Look.write(longest, "L" + "d".repeat(118) + "n");
        Check.due("errorPosition() of 120 characters that end too soon", longest.errorPosition(), 120);
    }

    private static void loadMakes() {
        RuleLists x = new RuleLists();
        Look.write(x, "Ls98605x00102j0001h0002w0200v00e002u00");
        Check.due("load()", x.load(), 0);
        Check.due("lists()", x.lists(), 8);
        String[] members = {
            " 986 991 996", " 988 993 998", " 986 988 991 993 996 998", " 986 991 996", " 988 993 998", " 986 991 996",
            " 991", " 986",
        };
        for (int list = 0; list < members.length; list++) {
            Check.due("the list " + list, Look.members(x, list), members[list]);
        }
        RuleLists two = Look.loaded("Ls00005s00707u01v01e012r01");
        Check.due("rules of the list 1", Look.members(two, 4).substring(0, 9), " 14 28 42");
        Check.due("its sum", two.memberByReading(2, 1), 21);
        Check.due("its sieve", two.lastMember(3), 7);
        Check.due("its reader", two.listOf(0), 1);
        RuleLists y = Look.loaded("Ls00003r00r00r00n0n0k102n2k299z2q1d");
        Check.due("readers()", y.readers(), 2);
        Check.due("readings()", y.readings(), 3);
        Check.due("reader 0", Look.reader(y, 0), "0 2 6");
        Check.due("reader 1", Look.reader(y, 1), "0 0 0");
        Check.due("lists() with d skipped", y.lists(), 1);
        Check.due("clearText() after load", y.clearText(), 35);
    }

    private static void loadSkips() {
        RuleLists x = new RuleLists();
        Look.write(x, "Ldv00r00n0k001z0q0");
        Check.due("load() of what cannot be done", x.load(), 7);
        RuleLists y = new RuleLists();
        Look.write(y, "Ls00001" + "j0000".repeat(12) + "r00r00r00r00r00d");
        Check.due("load() beyond the limits", y.load(), 2);
        Check.due("lists()", y.lists(), 11);
        Check.due("readers()", y.readers(), 4);
        RuleLists z = new RuleLists();
        Look.write(z, "Ls99901r00n0n0d");
        Check.due("load() that reads to the end", z.load(), 2);
        Check.due("readings()", z.readings(), 1);
        Check.due("skipping fewer members is no exception", loadCount("Ls99901r00k099k099"), 0);
    }

    private static int loadCount(String text) {
        RuleLists x = new RuleLists();
        Look.write(x, text);
        return x.load();
    }

    private static void loadForgets() {
        RuleLists x = new RuleLists();
        x.makeSteps(5, 5);
        x.beginReading(0);
        x.read(0);
        x.save(0);
        x.save(1);
        Look.write(x, "Ls00701");
        Check.due("load()", x.load(), 0);
        Check.due("lists()", x.lists(), 1);
        Check.due("lastMember(0)", x.lastMember(0), 999);
        Check.due("memberByReading(0, 0)", x.memberByReading(0, 0), 7);
        Check.due("readers()", x.readers(), 0);
        Check.due("readings()", x.readings(), 0);
        Check.notNow("undo() after load", x, x::undo);
        Check.notNow("restore(0) after load", x, () -> x.restore(0));
        Check.notNow("restore(1) after load", x, () -> x.restore(1));
        Check.due("load() again", x.load(), 0);
        Check.due("lists() after the second load", x.lists(), 1);
    }

    private static void loadRefuses() {
        RuleLists x = new RuleLists();
        x.makeSteps(5, 5);
        x.save(1);
        x.makeSieved(0);
        Look.write(x, "Ls00101d0");
        Check.notNow("load()", x, x::load);
        Check.due("clearText()", x.clearText(), 9);
        Check.due("undo()", x.undo(), 1);
        Check.due("restore(1)", x.restore(1), 1);
    }
}
