import java.util.List;
import java.util.function.Consumer;
import java.util.function.Supplier;

/** Calls that have to be refused. Each is tried on a new object, which is compared with one that was made alike. */
final class Refusals {
    interface With {
        void call(RuleLists x, int number);
    }

    private static final List<Supplier<RuleLists>> SAMPLES = List.of(RuleLists::new, Samples::rich, Samples::full,
            Samples::dropped, Samples::eleven, Samples::four);

    private Refusals() {
    }

    static void noSuch(Supplier<RuleLists> made, Consumer<RuleLists> call) {
        refused(IndexOutOfBoundsException.class, made, call);
    }

    static void outOfRange(Supplier<RuleLists> made, Consumer<RuleLists> call) {
        refused(IllegalArgumentException.class, made, call);
    }

    static void notNow(Supplier<RuleLists> made, Consumer<RuleLists> call) {
        refused(IllegalStateException.class, made, call);
    }

    /** With every number that just is no list's, in objects with no list, some, and 12. */
    static void noSuchList(With call) {
        for (Supplier<RuleLists> made : SAMPLES) {
            int lists = made.get().lists();
            for (int number : new int[] {Integer.MIN_VALUE, -1, lists, lists + 1, 12, 64, Integer.MAX_VALUE}) {
                noSuch(made, x -> call.call(x, number));
            }
        }
    }

    /** With every number that just is no reader's, in objects with no reader, some, and 4. */
    static void noSuchReader(With call) {
        for (Supplier<RuleLists> made : SAMPLES) {
            int readers = made.get().readers();
            for (int number : new int[] {Integer.MIN_VALUE, -1, readers, readers + 1, 4, 64, Integer.MAX_VALUE}) {
                noSuch(made, x -> call.call(x, number));
            }
        }
    }

    /** With the numbers just below and above what is in range, and far from it. */
    static void outOfRange(int least, int greatest, With call) {
        for (int number : new int[] {Integer.MIN_VALUE, -greatest, least - 1, greatest + 1, Integer.MAX_VALUE}) {
            outOfRange(Samples::rich, x -> call.call(x, number));
        }
    }

    private static void refused(Class<? extends RuntimeException> want, Supplier<RuleLists> made,
            Consumer<RuleLists> call) {
        RuleLists x = made.get();
        Check.due("the call", Check.nameOfThrown(() -> call.accept(x)), want.getName());
        Check.due("all after the call", Look.whole(x), Look.whole(made.get()));
    }
}
