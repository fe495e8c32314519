import java.lang.reflect.Constructor;
import java.lang.reflect.Field;
import java.lang.reflect.Method;
import java.lang.reflect.Modifier;
import java.util.Set;
import java.util.TreeSet;

/** The public face is the document's, and nothing else is to be seen from outside. */
final class FaceTest {
    private static final String INDEX = "IndexOutOfBoundsException";
    private static final String ARGUMENT = "IllegalArgumentException";
    private static final String STATE = "IllegalStateException";
    private static final String[] ALL = {INDEX, ARGUMENT, STATE};

    private static final Set<String> DUE = new TreeSet<>();

    private static void method(String answer, String name, int ints, String... thrown) {
        DUE.add(answer + " " + name + " " + ints + " " + String.join(" ", thrown));
    }

    private static void documentsMethods() {
        for (String name : new String[] {"work", "ground", "peg", "salt", "trade", "planCell"}) {
            method("int", name, 3, ALL);
        }
        for (String name : new String[] {"right", "brass", "sell", "buy", "plan"}) {
            method("int", name, 2, ALL);
        }
        method("int", "flow", 1, ARGUMENT);
        method("int", "miner", 2, ARGUMENT, STATE);
        method("int", "pass", 1, ARGUMENT, STATE);
        method("boolean", "meet", 4, ARGUMENT);
        method("int", "sample", 1, INDEX);
        method("int", "rate", 1, ARGUMENT);
        method("void", "freight", 2, ARGUMENT, STATE);
        method("void", "back", 4, ALL);
        method("int", "end", 2, INDEX, STATE);
        method("int", "suit", 1, INDEX, STATE);
        method("int", "rumour", 2, INDEX, ARGUMENT);
        method("int", "day", 0);
        method("int", "holds", 1, INDEX);
        method("int", "ofClaim", 2, INDEX, ARGUMENT);
        method("int", "ofMiner", 2, INDEX, ARGUMENT);
        method("int", "gets", 1, INDEX);
        method("int", "gold", 1, ARGUMENT);
        method("int", "camp", 1, ARGUMENT);
        method("int", "belief", 1, INDEX);
    }

    private static String told(Method method) {
        StringBuilder text = new StringBuilder();
        text.append(method.getReturnType().getSimpleName()).append(' ').append(method.getName());
        int ints = 0;
        for (Class<?> type : method.getParameterTypes()) {
            ints += type == int.class ? 1 : 100;
        }
        text.append(' ').append(ints).append(' ');
        String between = "";
        for (Class<?> type : method.getExceptionTypes()) {
            text.append(between).append(type.getSimpleName());
            between = " ";
        }
        return text.toString();
    }

    private static void methods() {
        Set<String> publicNames = new TreeSet<>();
        Set<String> got = new TreeSet<>();
        for (Method method : NuggetCamp.class.getDeclaredMethods()) {
            if (Modifier.isPublic(method.getModifiers())) {
                got.add(told(method));
                publicNames.add(method.getName());
            }
        }
        Check.due("methods: " + got + " for " + DUE, got.equals(DUE), true);
        for (Method method : NuggetCamp.class.getDeclaredMethods()) {
            boolean isPublic = Modifier.isPublic(method.getModifiers());
            boolean isPrivate = Modifier.isPrivate(method.getModifiers());
            Check.due(method + " is public or private", isPublic || isPrivate, true);
            Check.due(method + " bears the name of a public one",
                    isPrivate && publicNames.contains(method.getName()), false);
        }
    }

    private static void fields() throws IllegalAccessException {
        Set<String> got = new TreeSet<>();
        for (Field field : NuggetCamp.class.getDeclaredFields()) {
            int modifiers = field.getModifiers();
            if (Modifier.isPublic(modifiers)) {
                got.add(field.getName() + field.getInt(null));
                Check.due(field + " is a constant",
                        Modifier.isStatic(modifiers) && Modifier.isFinal(modifiers), true);
            } else {
                Check.due(field + " is private", Modifier.isPrivate(modifiers), true);
            }
        }
        Check.due("constants: " + got,
                got.equals(Set.of("NONE-1", "PAN0", "ROCKER1", "SLUICE2", "MONITOR3")), true);
    }

    private static void classes() {
        int modifiers = NuggetCamp.class.getModifiers();
        Check.due("the class is public and final",
                Modifier.isPublic(modifiers) && Modifier.isFinal(modifiers), true);
        Constructor<?>[] constructors = NuggetCamp.class.getDeclaredConstructors();
        Check.due("constructors", constructors.length, 1);
        Check.due("the constructor is public",
                Modifier.isPublic(constructors[0].getModifiers()), true);
        Check.due("the constructor's parameters", constructors[0].getParameterCount(), 0);
        for (Class<?> inside : NuggetCamp.class.getDeclaredClasses()) {
            Check.due(inside + " is hidden", Modifier.isPublic(inside.getModifiers())
                    || Modifier.isProtected(inside.getModifiers()), false);
        }
    }

    public static void main(String[] args) throws IllegalAccessException {
        documentsMethods();
        methods();
        fields();
        classes();
        Check.end();
    }
}
