import java.lang.reflect.Constructor;
import java.lang.reflect.Field;
import java.lang.reflect.Method;
import java.lang.reflect.Modifier;
import java.util.Set;
import java.util.TreeSet;

/** The class has the public face of the document, and no member besides that others can see. */
public final class FaceTest {
    private static final String INDEX = "IndexOutOfBoundsException";
    private static final String STATE = "IllegalStateException";
    private static final String ARGUMENT = "IllegalArgumentException";
    private static final String UNSUPPORTED = "UnsupportedOperationException";
    private static final String ELEMENT = "NoSuchElementException";
    private static final String ARITHMETIC = "ArithmeticException";

    private static final Set<String> DUE = new TreeSet<>();
    private static final Check CHECK = new Check();

    public static void main(String[] args) {
        tellSetup();
        tellDraft();
        tellMarket();
        tellSeason();
        tellFigures();
        Set<String> found = new TreeSet<>();
        for (Method method : DraftLeague.class.getDeclaredMethods()) {
            if (!Modifier.isPrivate(method.getModifiers())) {
                found.add(describe(method));
            }
        }
        CHECK.due("the face", String.join("\n", found), String.join("\n", DUE));
        otherMembers();
        privateNames();
        CHECK.finish();
    }

    private static void tell(String result, String name, int numbers, String... exceptions) {
        DUE.add("public " + result + " " + name + " " + numbers + " " + String.join(" ", exceptions));
    }

    private static String describe(Method method) {
        StringBuilder text = new StringBuilder(Modifier.toString(method.getModifiers()));
        text.append(' ').append(method.getReturnType().getSimpleName()).append(' ').append(method.getName());
        int numbers = 0;
        for (Class<?> type : method.getParameterTypes()) {
            numbers += type == int.class ? 1 : 100;
        }
        text.append(' ').append(numbers).append(' ');
        String[] names = new String[method.getExceptionTypes().length];
        for (int index = 0; index < names.length; index++) {
            names[index] = method.getExceptionTypes()[index].getSimpleName();
        }
        return text.append(String.join(" ", names)).toString();
    }

    private static void tellSetup() {
        tell("int", "addTeam", 1, ARGUMENT, STATE);
        tell("int", "addPlayer", 2, ARGUMENT, STATE);
        tell("int", "setPositions", 2, INDEX, ARGUMENT);
        tell("int", "setPlaces", 2, ARGUMENT);
        tell("int", "setBench", 1, ARGUMENT);
        tell("int", "setRule", 2, ARGUMENT);
    }

    private static void tellDraft() {
        tell("int", "nominate", 3, INDEX, STATE, ARGUMENT, UNSUPPORTED);
        tell("boolean", "bid", 2, INDEX, STATE, ARGUMENT, UNSUPPORTED);
        tell("int", "proxy", 3, INDEX, ARGUMENT);
        tell("int", "knock", 0, STATE);
        tell("int", "turnOf", 0, STATE, ELEMENT);
        tell("int", "endDraft", 0, STATE);
        tell("int", "ownerOf", 1, INDEX);
        tell("int", "paidFor", 1, INDEX, ELEMENT);
        tell("int", "money", 1, INDEX);
        tell("int", "size", 1, INDEX);
    }

    private static void tellMarket() {
        tell("int", "claim", 4, INDEX, STATE, UNSUPPORTED, ARGUMENT);
        tell("int", "offer", 4, INDEX, UNSUPPORTED, STATE, ARGUMENT);
        tell("boolean", "accept", 1, INDEX, UNSUPPORTED);
        tell("int", "veto", 2, INDEX, UNSUPPORTED);
        tell("char", "offerState", 1, INDEX);
    }

    private static void tellSeason() {
        tell("boolean", "meet", 3, INDEX, ARGUMENT);
        tell("long", "did", 4, INDEX, ARGUMENT, UNSUPPORTED);
        tell("int", "endWeek", 0, STATE);
        tell("int", "week", 0);
        tell("boolean", "setFinal", 1, ARGUMENT);
        tell("long", "points", 2, INDEX, ARGUMENT);
        tell("long", "score", 2, INDEX, ARGUMENT);
        tell("int", "fills", 3, INDEX, ARGUMENT, ELEMENT);
        tell("int", "result", 2, INDEX, ARGUMENT, ELEMENT);
        tell("int", "rank", 1, INDEX);
        tell("int", "ranked", 1, INDEX);
        tell("int", "wins", 1, INDEX);
        tell("long", "sumOf", 1, INDEX);
    }

    private static void tellFigures() {
        tell("int", "suspects", 0);
        tell("long", "tradeValue", 1, INDEX);
        tell("long", "pot", 0);
        tell("int", "players", 0);
        tell("float", "freeShare", 0, ARITHMETIC);
        tell("double", "meanScore", 0, ARITHMETIC);
        tell("boolean", "isSound", 0);
    }

    private static void otherMembers() {
        CHECK.due("public and final", DraftLeague.class.getModifiers(), Modifier.PUBLIC | Modifier.FINAL);
        CHECK.due("constructors", DraftLeague.class.getDeclaredConstructors().length, 1);
        for (Constructor<?> made : DraftLeague.class.getDeclaredConstructors()) {
            CHECK.due("public constructor", made.getModifiers(), Modifier.PUBLIC);
            CHECK.due("its parameters", made.getParameterCount(), 0);
        }
        for (Field field : DraftLeague.class.getDeclaredFields()) {
            CHECK.due("private field " + field.getName(), Modifier.isPrivate(field.getModifiers()), true);
        }
        for (Class<?> inside : DraftLeague.class.getDeclaredClasses()) {
            CHECK.due("static class " + inside.getName(), Modifier.isStatic(inside.getModifiers()), true);
            CHECK.due("public class " + inside.getName(), Modifier.isPublic(inside.getModifiers()), false);
        }
    }

    /** Rule 1 of LANGUAGE.md: no private method bears the name of a public one. */
    private static void privateNames() {
        Set<String> names = new TreeSet<>();
        for (String line : DUE) {
            names.add(line.split(" ")[2]);
        }
        Set<Method> others = new java.util.HashSet<>();
        for (Class<?> inside : DraftLeague.class.getDeclaredClasses()) {
            others.addAll(java.util.List.of(inside.getDeclaredMethods()));
        }
        for (Method method : DraftLeague.class.getDeclaredMethods()) {
            if (Modifier.isPrivate(method.getModifiers())) {
                others.add(method);
            }
        }
        for (Method method : others) {
            CHECK.due("a name of the face inside: " + method, names.contains(method.getName()), false);
        }
    }
}
