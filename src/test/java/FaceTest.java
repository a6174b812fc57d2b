import java.lang.reflect.Constructor;
import java.lang.reflect.Field;
import java.lang.reflect.Method;
import java.lang.reflect.Modifier;
import java.util.Arrays;
import java.util.Set;
import java.util.TreeMap;
import java.util.TreeSet;

/** The public face of the document, and nothing beside it (rule 1 of LANGUAGE.md). */
public final class FaceTest {
    private static final String[] METHODS = {
        "build(int, int)", "addStation(int, int)", "setHeat(int, int)", "setFare(int)",
        "setPatience(int)", "drain(int)", "book(int, int, int, int, int)", "cancel(int)",
        "call(int, int)", "callBack(int)", "order(int, int)", "endOrder(int)", "tick(int)",
        "type(char)", "clearText()", "readTickets()", "undo()", "keep()", "restore()",
        "line(int, int)", "slot(int, int)", "station(int, int)", "waiting(int, int)",
        "calls(int, int)", "ticket(int, int)", "ordered(int, int)", "price(int, int)",
        "fate(int, int)", "slotIn(int, int)", "lapsNeeded(int, int)", "event(int, int)",
        "count(int)"};

    public static void main(String[] args) throws ReflectiveOperationException {
        theClass();
        constants();
        methods();
        classesInside();
        Check.end("FaceTest");
    }

    private static void theClass() {
        int modifiers = MercuryLine.class.getModifiers();
        Check.due("public", Modifier.isPublic(modifiers));
        Check.due("final", Modifier.isFinal(modifiers));
        Check.due("without a package", MercuryLine.class.getPackageName().isEmpty());
        Check.due("extends nothing", MercuryLine.class.getSuperclass() == Object.class);
        Check.due("implements nothing", MercuryLine.class.getInterfaces().length, 0);
        Constructor<?>[] constructors = MercuryLine.class.getDeclaredConstructors();
        Check.due("one constructor", constructors.length, 1);
        Check.due("public", Modifier.isPublic(constructors[0].getModifiers()));
        Check.due("without arguments", constructors[0].getParameterCount(), 0);
    }

    private static void constants() throws IllegalAccessException {
        TreeMap<String, Integer> due = new TreeMap<>();
        due.put("UNKNOWN", -1);
        due.put("BAD_VALUE", -2);
        due.put("FULL", -3);
        due.put("NOT_POSSIBLE", -4);
        due.put("NONE", -5);
        for (Field field : MercuryLine.class.getDeclaredFields()) {
            int modifiers = field.getModifiers();
            if (Modifier.isPrivate(modifiers)) {
                continue;
            }
            Integer value = due.remove(field.getName());
            Check.due("no other field than the constants: " + field, value != null);
            Check.due(field + " is public", Modifier.isPublic(modifiers));
            Check.due(field + " is static and final", Modifier.isStatic(modifiers) && Modifier.isFinal(modifiers));
            Check.due(field + " is an int", field.getType() == int.class);
            Check.due(field.getName(), field.getInt(null), value == null ? 0 : value);
        }
        Check.due("all constants are there: " + due, due.isEmpty());
    }

    private static void methods() {
        Set<String> due = new TreeSet<>(Arrays.asList(METHODS));
        Set<String> names = new TreeSet<>();
        for (String method : METHODS) {
            names.add(method.substring(0, method.indexOf('(')));
        }
        for (Method method : MercuryLine.class.getDeclaredMethods()) {
            int modifiers = method.getModifiers();
            if (Modifier.isPrivate(modifiers)) {
                Check.due("no private method has a public name: " + method, !names.contains(method.getName()));
                continue;
            }
            Check.due("a method of the face: " + method, due.remove(signature(method)));
            Check.due(method + " is public", Modifier.isPublic(modifiers));
            Check.due(method + " is not static", !Modifier.isStatic(modifiers));
            Check.due(method + " answers an int", method.getReturnType() == int.class);
        }
        Check.due("all methods are there: " + due, due.isEmpty());
    }

    private static String signature(Method method) {
        StringBuilder text = new StringBuilder(method.getName()).append('(');
        for (Class<?> type : method.getParameterTypes()) {
            text.append(text.charAt(text.length() - 1) == '(' ? "" : ", ").append(type.getName());
        }
        return text.append(')').toString();
    }

    private static void classesInside() {
        Class<?>[] inside = MercuryLine.class.getDeclaredClasses();
        Check.due("some twelve classes at most", inside.length <= 12);
        for (Class<?> one : inside) {
            int modifiers = one.getModifiers();
            Check.due(one + " is static", Modifier.isStatic(modifiers));
            Check.due(one + " is not public", !Modifier.isPublic(modifiers) && !Modifier.isProtected(modifiers));
            Check.due(one + " has some twenty fields at most", ownFields(one) <= 20);
        }
    }

    private static int ownFields(Class<?> one) {
        int found = 0;
        for (Field field : one.getDeclaredFields()) {
            found += Modifier.isStatic(field.getModifiers()) ? 0 : 1;
        }
        return found;
    }
}
