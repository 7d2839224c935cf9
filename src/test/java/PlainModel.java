import java.util.ArrayDeque;
import java.util.ArrayList;
import java.util.Deque;
import java.util.List;
import java.util.TreeSet;
import java.util.regex.Matcher;
import java.util.regex.Pattern;

/**
 * The document once more, written another way: states that never change, lists of Integers, and the
 * text read by a regular expression. The tests compare RuleLists with it, call by call.
 */
final class PlainModel {
    record Reader(int list, int passed) {
    }

    record State(List<List<Integer>> lists, List<Reader> readers, int readings) {
        static final State EMPTY = new State(List.of(), List.of(), 0);

        State plusList(List<Integer> list) {
            List<List<Integer>> all = new ArrayList<>(lists);
            all.add(list);
            return new State(all, readers, readings);
        }

        State withReaders(List<Reader> all, int moreReadings) {
            return new State(lists, all, readings + moreReadings);
        }

        State withReader(int reader, int passed, int moreReadings) {
            List<Reader> all = new ArrayList<>(readers);
            all.set(reader, new Reader(all.get(reader).list, passed));
            return withReaders(all, moreReadings);
        }

        List<Integer> listOf(int reader) {
            return lists.get(readers.get(reader).list);
        }

        int next(int reader) {
            int passed = readers.get(reader).passed;
            return passed < listOf(reader).size() ? listOf(reader).get(passed) : -1;
        }
    }

    /** What an action answers and makes. */
    record Done(long answer, State after) {
    }

    private static final String LIST = "(?:0\\d|1[01])";
    private static final String COUNT = "(?:0[1-9]|[1-9]\\d)";
    private static final Pattern COMMAND = Pattern.compile("s\\d{3}" + COUNT + "|x" + LIST + "[1-9]\\d\\d|[jhw]" + LIST
            + LIST + "|[vur]" + LIST + "|e" + LIST + "[1-9]|[nzq][0-3]|k[0-3]" + COUNT + "|d");
    private static final Pattern RULES = Pattern.compile("L(?:" + COMMAND.pattern() + ")*");

    private String text = "";
    private State state = State.EMPTY;
    private final Deque<State> remembered = new ArrayDeque<>();
    private final State[] slots = new State[2];

    long call(String name, long a, int b, int c) {
        switch (name) {
            case "append":
                range(a, 0, 255);
                now(text.length() < 120);
                text += (char) a;
                return text.length();
            case "clearText":
                int length = text.length();
                text = "";
                return length;
            case "errorPosition":
                return errorPosition();
            case "load":
                return load();
            case "undo":
                now(!remembered.isEmpty());
                state = remembered.pop();
                return remembered.size();
            case "save":
                such(a >= 0 && a < 2);
                slots[(int) a] = state;
                return state.lists.size();
            case "restore":
                such(a >= 0 && a < 2);
                now(slots[(int) a] != null);
                state = slots[(int) a];
                remembered.clear();
                return state.lists.size();
            case "simulate":
                return simulate(a, b);
            default:
                Done done = act(state, name, (int) a, b, c);
                if (done == null) {
                    return look(name, (int) a, b);
                }
                remembered.push(state);
                if (remembered.size() > 14) {
                    remembered.removeLast();
                }
                state = done.after;
                return done.answer;
        }
    }

    int lists() {
        return state.lists.size();
    }

    int readers() {
        return state.readers.size();
    }

    private int errorPosition() {
        for (int length = 1; length <= text.length(); length++) {
            Matcher matcher = RULES.matcher(text.substring(0, length));
            if (!matcher.matches() && !matcher.hitEnd()) {
                return length - 1;
            }
        }
        return RULES.matcher(text).matches() ? -1 : text.length();
    }

    private int load() {
        now(RULES.matcher(text).matches());
        state = State.EMPTY;
        remembered.clear();
        slots[0] = null;
        slots[1] = null;
        int skipped = 0;
        Matcher matcher = COMMAND.matcher(text.substring(1));
        while (matcher.find()) {
            try {
                state = command(matcher.group()).after;
            } catch (RuntimeException e) {
                skipped++;
            }
        }
        return skipped;
    }

    private Done command(String c) {
        switch (c.charAt(0)) {
            case 's': return act(state, "makeSteps", number(c, 1, 4), number(c, 4, 6), 0);
            case 'x': return act(state, "makeScaled", number(c, 1, 3), number(c, 3, 4), number(c, 4, 6));
            case 'j': return act(state, "makeJoined", number(c, 1, 3), number(c, 3, 5), 0);
            case 'h': return act(state, "makeShared", number(c, 1, 3), number(c, 3, 5), 0);
            case 'w': return act(state, "makeWithout", number(c, 1, 3), number(c, 3, 5), 0);
            case 'v': return act(state, "makeSieved", number(c, 1, 3), 0, 0);
            case 'e': return act(state, "makeThinned", number(c, 1, 3), number(c, 3, 4), 0);
            case 'u': return act(state, "makeAddedUp", number(c, 1, 3), 0, 0);
            case 'r': return act(state, "beginReading", number(c, 1, 3), 0, 0);
            case 'n': return act(state, "read", number(c, 1, 2), 0, 0);
            case 'k': return act(state, "skip", number(c, 1, 2), number(c, 2, 4), 0);
            case 'z': return act(state, "goBack", number(c, 1, 2), 0, 0);
            case 'q': return act(state, "stopReading", number(c, 1, 2), 0, 0);
            default: return act(state, "dropLast", 0, 0, 0);
        }
    }

    private static int number(String command, int from, int to) {
        return Integer.parseInt(command.substring(from, to));
    }

    /** Null if the name is no action's. */
    private static Done act(State s, String name, int a, int b, int c) {
        if (name.startsWith("make")) {
            return make(s, name, a, b, c);
        }
        switch (name) {
            case "dropLast":
                now(whyNoDrop(s) == 0);
                int left = s.lists.size() - 1;
                return new Done(left, new State(s.lists.subList(0, left), s.readers, s.readings));
            case "beginReading": {
                such(isList(s, a));
                now(s.readers.size() < 4);
                List<Reader> all = new ArrayList<>(s.readers);
                all.add(new Reader(a, 0));
                return new Done(s.readers.size(), s.withReaders(all, 0));
            }
            case "read":
                such(isReader(s, a));
                now(s.next(a) != -1);
                return new Done(s.next(a), s.withReader(a, s.readers.get(a).passed + 1, 1));
            case "skip": {
                such(isReader(s, a));
                range(b, 1, 99);
                int passed = s.readers.get(a).passed;
                int skipped = Math.min(b, s.listOf(a).size() - passed);
                return new Done(skipped, s.withReader(a, passed + skipped, 0));
            }
            case "goBack":
                such(isReader(s, a));
                return new Done(s.readers.get(a).passed, s.withReader(a, 0, 0));
            case "stopReading": {
                such(isReader(s, a));
                List<Reader> all = new ArrayList<>(s.readers);
                all.remove(a);
                return new Done(all.size(), s.withReaders(all, 0));
            }
            default:
                return null;
        }
    }

    private static Done make(State s, String name, int a, int b, int c) {
        boolean two = name.equals("makeJoined") || name.equals("makeShared") || name.equals("makeWithout");
        if (name.equals("makeSteps")) {
            range(a, 0, 999);
            range(b, 1, 99);
        } else {
            such(isList(s, a) && (!two || isList(s, b)));
        }
        if (name.equals("makeScaled")) {
            range(b, 1, 9);
            range(c, 0, 99);
        }
        if (name.equals("makeThinned")) {
            range(b, 1, 9);
        }
        now(s.lists.size() < 12);
        List<Integer> one = name.equals("makeSteps") ? List.of() : s.lists.get(a);
        List<Integer> other = two ? s.lists.get(b) : List.of();
        return new Done(s.lists.size(), s.plusList(membersBy(name, one, other, a, b, c)));
    }

    private static List<Integer> membersBy(String name, List<Integer> one, List<Integer> other, int a, int b, int c) {
        TreeSet<Integer> members = new TreeSet<>(one);
        switch (name) {
            case "makeSteps":
                for (int number = a; number < 1000; number += b) {
                    members.add(number);
                }
                break;
            case "makeScaled":
                members.clear();
                one.forEach(member -> members.add(member * b + c));
                break;
            case "makeJoined":
                members.addAll(other);
                break;
            case "makeShared":
                members.retainAll(other);
                break;
            case "makeWithout":
                members.removeAll(new TreeSet<>(other));
                break;
            case "makeSieved":
                members.clear();
                for (int member : one) {
                    if (members.stream().noneMatch(kept -> kept > 1 && member % kept == 0)) {
                        members.add(member);
                    }
                }
                break;
            case "makeThinned":
                members.removeIf(member -> (one.indexOf(member) + 1) % b != 0);
                break;
            default:
                members.clear();
                int sum = 0;
                for (int member : one) {
                    sum += member;
                    members.add(sum);
                }
                break;
        }
        members.removeIf(member -> member > 999);
        return List.copyOf(members);
    }

    private long look(String name, int a, int b) {
        State s = state;
        switch (name) {
            case "lists": return s.lists.size();
            case "readers": return s.readers.size();
            case "readings": return s.readings;
            case "whyNoDrop": return whyNoDrop(s);
            case "leastNext": return leastNext(s);
            case "listOf": such(isReader(s, a)); return s.readers.get(a).list;
            case "readSoFar": such(isReader(s, a)); return s.readers.get(a).passed;
            case "nextOf": such(isReader(s, a)); return s.next(a);
            case "skipsTo": such(isReader(s, a)); range(b, 0, 999); return skipsTo(s, a, b);
            case "firstOfPairByWalking":
            case "firstOfPairByCounting": range(a, 0, 99999); return firstOfPair(a);
            case "numberOfPair":
                range(a, 0, 200);
                range(b, 0, 200);
                return (a + b) * (a + b + 1) / 2 + a;
            default: return lookAtList(name, a, b);
        }
    }

    private long lookAtList(String name, int a, int b) {
        such(isList(state, a));
        List<Integer> list = state.lists.get(a);
        int size = list.size();
        switch (name) {
            case "isMember": range(b, 0, 999); return list.contains(b) ? 1 : 0;
            case "memberByReading":
            case "memberByTesting": such(b >= 0); return b < size ? list.get(b) : -1;
            case "placeOf": range(b, 0, 999); return list.indexOf(b);
            case "membersUpTo": range(b, 0, 999); return list.stream().filter(member -> member <= b).count();
            case "lastMember": return size == 0 ? -1 : list.get(size - 1);
            case "widestGap":
                int widest = 0;
                for (int place = 1; place < size; place++) {
                    widest = Math.max(widest, list.get(place) - list.get(place - 1));
                }
                return widest;
            case "firstShared":
                such(isList(state, b));
                return list.stream().filter(state.lists.get(b)::contains).findFirst().orElse(-1);
            case "membersIfJoined":
                such(isList(state, b));
                TreeSet<Integer> both = new TreeSet<>(list);
                both.addAll(state.lists.get(b));
                return both.size();
            default:
                throw new Error("no such call: " + name);
        }
    }

    private static int whyNoDrop(State s) {
        if (s.lists.isEmpty()) {
            return 1;
        }
        return s.readers.stream().anyMatch(reader -> reader.list == s.lists.size() - 1) ? 2 : 0;
    }

    private static int leastNext(State s) {
        int best = -1;
        for (int reader = s.readers.size() - 1; reader >= 0; reader--) {
            if (s.next(reader) != -1 && (best == -1 || s.next(reader) <= s.next(best))) {
                best = reader;
            }
        }
        return best;
    }

    private static int skipsTo(State s, int reader, int number) {
        List<Integer> list = s.listOf(reader);
        int passed = s.readers.get(reader).passed;
        for (int place = passed; place < list.size(); place++) {
            if (list.get(place) >= number) {
                return place - passed;
            }
        }
        return -1;
    }

    private static int firstOfPair(int pair) {
        int corner = 0;
        int first = 0;
        for (int steps = 0; steps < pair; steps++) {
            if (first == corner) {
                corner++;
                first = 0;
            } else {
                first++;
            }
        }
        return first;
    }

    private long simulate(long seed, int turns) {
        range(turns, 1, 60);
        State s = state;
        long x = seed;
        int sum = 0;
        for (int turn = 0; turn < turns; turn++) {
            x = x * 6364136223846793005L + 1442695040888963407L;
            int r = (int) (x >>> 33);
            try {
                Done done = turn(s, r % 16, r / 16);
                s = done.after;
                sum += r % 16 > 10 ? (int) done.answer : 0;
            } catch (IndexOutOfBoundsException | IllegalArgumentException | IllegalStateException e) {
                // The turn is skipped.
            }
        }
        return 10000L * s.lists.size() + sum % 10000;
    }

    private static Done turn(State s, int kind, int q) {
        switch (kind) {
            case 0:
            case 1: return act(s, "makeSteps", q % 100, 1 + q / 128 % 20, 0);
            case 2: return act(s, "makeScaled", q % 12, 1 + q / 16 % 3, 0);
            case 3: return act(s, "makeJoined", q % 12, q / 16 % 12, 0);
            case 4: return act(s, "makeShared", q % 12, q / 16 % 12, 0);
            case 5: return act(s, "makeWithout", q % 12, q / 16 % 12, 0);
            case 6: return act(s, "makeSieved", q % 12, 0, 0);
            case 7: return act(s, "makeThinned", q % 12, 1 + q / 16 % 4, 0);
            case 8: return act(s, "makeAddedUp", q % 12, 0, 0);
            case 9: return act(s, "beginReading", q % 12, 0, 0);
            case 10: return act(s, "dropLast", 0, 0, 0);
            default: return act(s, "read", q % 4, 0, 0);
        }
    }

    private static boolean isList(State s, int list) {
        return list >= 0 && list < s.lists.size();
    }

    private static boolean isReader(State s, int reader) {
        return reader >= 0 && reader < s.readers.size();
    }

    private static void such(boolean fine) {
        if (!fine) {
            throw new IndexOutOfBoundsException();
        }
    }

    private static void range(long value, int least, int greatest) {
        if (value < least || value > greatest) {
            throw new IllegalArgumentException();
        }
    }

    private static void now(boolean fine) {
        if (!fine) {
            throw new IllegalStateException();
        }
    }
}
