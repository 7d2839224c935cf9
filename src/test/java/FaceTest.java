import java.lang.reflect.Constructor;
import java.lang.reflect.Field;
import java.lang.reflect.Method;
import java.lang.reflect.Modifier;
import java.util.TreeSet;

/** The public face is the document's and nothing else; a new object is empty (promise 1). */
public final class FaceTest {
    private static final String[] METHODS = {
        "int append(int) IllegalArgumentException IllegalStateException",
        "int clearText()",
        "int errorPosition()",
        "int load() IllegalStateException",
        "int makeSteps(int,int) IllegalArgumentException IllegalStateException",
        "int makeScaled(int,int,int) IndexOutOfBoundsException IllegalArgumentException IllegalStateException",
        "int makeJoined(int,int) IndexOutOfBoundsException IllegalStateException",
        "int makeShared(int,int) IndexOutOfBoundsException IllegalStateException",
        "int makeWithout(int,int) IndexOutOfBoundsException IllegalStateException",
        "int makeSieved(int) IndexOutOfBoundsException IllegalStateException",
        "int makeThinned(int,int) IndexOutOfBoundsException IllegalArgumentException IllegalStateException",
        "int makeAddedUp(int) IndexOutOfBoundsException IllegalStateException",
        "int dropLast() IllegalStateException",
        "int beginReading(int) IndexOutOfBoundsException IllegalStateException",
        "int read(int) IndexOutOfBoundsException IllegalStateException",
        "int skip(int,int) IndexOutOfBoundsException IllegalArgumentException",
        "int goBack(int) IndexOutOfBoundsException",
        "int stopReading(int) IndexOutOfBoundsException",
        "int undo() IllegalStateException",
        "int lists()",
        "boolean isMember(int,int) IndexOutOfBoundsException IllegalArgumentException",
        "int memberByReading(int,int) IndexOutOfBoundsException",
        "int memberByTesting(int,int) IndexOutOfBoundsException",
        "int placeOf(int,int) IndexOutOfBoundsException IllegalArgumentException",
        "int membersUpTo(int,int) IndexOutOfBoundsException IllegalArgumentException",
        "int lastMember(int) IndexOutOfBoundsException",
        "int firstShared(int,int) IndexOutOfBoundsException",
        "int widestGap(int) IndexOutOfBoundsException",
        "int readers()",
        "int listOf(int) IndexOutOfBoundsException",
        "int readSoFar(int) IndexOutOfBoundsException",
        "int nextOf(int) IndexOutOfBoundsException",
        "int readings()",
        "int leastNext()",
        "int firstOfPairByWalking(int) IllegalArgumentException",
        "int firstOfPairByCounting(int) IllegalArgumentException",
        "int numberOfPair(int,int) IllegalArgumentException",
        "int whyNoDrop()",
        "int membersIfJoined(int,int) IndexOutOfBoundsException",
        "int skipsTo(int,int) IndexOutOfBoundsException IllegalArgumentException",
        "int simulate(long,int) IllegalArgumentException",
        "int save(int) IndexOutOfBoundsException",
        "int restore(int) IndexOutOfBoundsException IllegalStateException",
    };

    public static void main(String[] args) {
        face();
        newObject();
        Check.end();
    }

    private static void face() {
        TreeSet<String> want = new TreeSet<>();
        for (String method : METHODS) {
            want.add(method);
        }
        TreeSet<String> got = new TreeSet<>();
        TreeSet<String> publicNames = new TreeSet<>();
        TreeSet<String> privateNames = new TreeSet<>();
        for (Method method : RuleLists.class.getDeclaredMethods()) {
            if (Modifier.isPrivate(method.getModifiers())) {
                privateNames.add(method.getName());
            } else {
                got.add(described(method));
                publicNames.add(method.getName());
            }
        }
        Check.due("the methods", got.toString(), want.toString());
        privateNames.retainAll(publicNames);
        Check.due("private methods with a public one's name", privateNames.toString(), "[]");
        fieldsAndConstructors();
    }

    private static void fieldsAndConstructors() {
        for (Field field : RuleLists.class.getDeclaredFields()) {
            boolean ofTheFace = field.getName().equals("NONE");
            int modifiers = field.getModifiers();
            Check.due(field.getName() + " private", Modifier.isPrivate(modifiers), !ofTheFace);
            Check.due(field.getName() + " public", Modifier.isPublic(modifiers), ofTheFace);
            if (Modifier.isStatic(modifiers)) {
                Check.due(field.getName() + " final", Modifier.isFinal(modifiers), true);
            }
        }
        Check.due("NONE", RuleLists.NONE, -1);
        Constructor<?>[] made = RuleLists.class.getDeclaredConstructors();
        Check.due("constructors", made.length, 1);
        Check.due("constructor's parameters", made[0].getParameterCount(), 0);
        Check.due("constructor public", Modifier.isPublic(made[0].getModifiers()), true);
        Check.due("class public", Modifier.isPublic(RuleLists.class.getModifiers()), true);
        Check.due("class final", Modifier.isFinal(RuleLists.class.getModifiers()), true);
    }

    private static String described(Method method) {
        StringBuilder out = new StringBuilder();
        out.append(Modifier.isPublic(method.getModifiers()) ? "" : "not public ");
        out.append(Modifier.isStatic(method.getModifiers()) ? "static " : "");
        out.append(method.getReturnType().getSimpleName()).append(' ').append(method.getName()).append('(');
        String between = "";
        for (Class<?> type : method.getParameterTypes()) {
            out.append(between).append(type.getSimpleName());
            between = ",";
        }
        out.append(')');
        for (Class<?> type : method.getExceptionTypes()) {
            out.append(' ').append(type.getSimpleName());
        }
        return out.toString();
    }

    private static void newObject() {
        RuleLists x = new RuleLists();
        Check.due("lists()", x.lists(), 0);
        Check.due("readers()", x.readers(), 0);
        Check.due("readings()", x.readings(), 0);
        Check.due("leastNext()", x.leastNext(), RuleLists.NONE);
        Check.due("whyNoDrop()", x.whyNoDrop(), 1);
        Check.due("clearText()", x.clearText(), 0);
        Check.notNow("undo()", x, x::undo);
        Check.notNow("restore(0)", x, () -> x.restore(0));
        Check.notNow("restore(1)", x, () -> x.restore(1));
        Check.notNow("dropLast()", x, x::dropLast);
        Check.noSuch("beginReading(0)", x, () -> x.beginReading(0));
        Check.noSuch("read(0)", x, () -> x.read(0));
        twoObjects();
    }

    private static void twoObjects() {
        RuleLists one = new RuleLists();
        RuleLists other = new RuleLists();
        one.makeSteps(1, 1);
        one.save(0);
        one.append('L');
        Check.due("lists() of another object", other.lists(), 0);
        Check.due("clearText() of another object", other.clearText(), 0);
        Check.notNow("restore(0) of another object", other, () -> other.restore(0));
        Check.notNow("undo() of another object", other, other::undo);
    }
}
